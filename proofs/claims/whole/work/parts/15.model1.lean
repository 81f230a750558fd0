/-! the model: what it reads -/
theorem ixA (a w : Nat) : (26 : Int32) + 5 * nI a + nI w = nI (26 + 5 * a + w) := by
  show nI 26 + nI 5 * nI a + nI w = _
  rw [nI_mul, nI_add, nI_add]
theorem ix10 (k : Nat) : (10 : Int32) + nI k = nI (10 + k) := by
  show nI 10 + nI k = _
  rw [nI_add]
theorem ix18 (k : Nat) : (18 : Int32) + nI k = nI (18 + k) := by
  show nI 18 + nI k = _
  rw [nI_add]
theorem ix66 (k : Nat) : (66 : Int32) + 2 * nI k = nI (66 + 2 * k) := by
  show nI 66 + nI 2 * nI k = _
  rw [nI_mul, nI_add]
theorem ix94 (t k : Nat) : (94 : Int32) + 96 * nI t + nI k = nI (94 + 96 * t + k) := by
  show nI 94 + nI 96 * nI t + nI k = _
  rw [nI_mul, nI_add, nI_add]
theorem dX7_in_0 : decode fX7_in.2.1 0 = .ok (.iload_n 0, 1) := by decide +kernel
theorem dX7_in_1 : decode fX7_in.2.1 1 = .ok (.iload_n 1, 1) := by decide +kernel
theorem dX7_in_2 : decode fX7_in.2.1 2 = .ok (.if_icmp .lt 12, 3) := by decide +kernel
theorem dX7_in_5 : decode fX7_in.2.1 5 = .ok (.iload_n 0, 1) := by decide +kernel
theorem dX7_in_6 : decode fX7_in.2.1 6 = .ok (.iload_n 2, 1) := by decide +kernel
theorem dX7_in_7 : decode fX7_in.2.1 7 = .ok (.if_icmp .gt 7, 3) := by decide +kernel
theorem dX7_in_10 : decode fX7_in.2.1 10 = .ok (.iconst 1, 1) := by decide +kernel
theorem dX7_in_11 : decode fX7_in.2.1 11 = .ok (.goto 4, 3) := by decide +kernel
theorem dX7_in_14 : decode fX7_in.2.1 14 = .ok (.iconst 0, 1) := by decide +kernel
theorem dX7_in_15 : decode fX7_in.2.1 15 = .ok (.ireturn, 1) := by decide +kernel
set_option maxRecDepth 100000 in
set_option maxHeartbeats 4000000 in
theorem ok_X7_in {X : Xb} {S : Sg} {mi : Mem} {v lo hi : Int32} : OkI 0 fX7_in X [.int v, .int lo, .int hi] S mi (b2i (lo ≤ v ∧ v ≤ hi)) mi := by
  refine Ok.go [some (.int v), some (.int lo), some (.int hi)] (by decide) (by simp [Value.category]) (Nat.le_of_ble_eq_true rfl) rfl ?_
  refine mw_iload_n dX7_in_0 rfl ?_
  refine mw_iload_n dX7_in_1 rfl ?_
  refine mw_icmp_lt (tgt := 14) dX7_in_2 (by decide) (fun h2 => ?_) (fun h2 => ?_)
  · skip
    refine mw_iconst (v := 0) dX7_in_14 (by decide) ?_
    exact mw_bret dX7_in_15 rfl (by first | exact Or.inl rfl | exact Or.inr rfl | exact b2i_01) (by decide) (by decide) (⟨by grind [b2i], rfl, rfl⟩)
  · skip
    refine mw_iload_n dX7_in_5 rfl ?_
    refine mw_iload_n dX7_in_6 rfl ?_
    refine mw_icmp_gt (tgt := 14) dX7_in_7 (by decide) (fun h7 => ?_) (fun h7 => ?_)
    · skip
      refine mw_iconst (v := 0) dX7_in_14 (by decide) ?_
      exact mw_bret dX7_in_15 rfl (by first | exact Or.inl rfl | exact Or.inr rfl | exact b2i_01) (by decide) (by decide) (⟨by grind [b2i], rfl, rfl⟩)
    · skip
      refine mw_iconst (v := 1) dX7_in_10 (by decide) ?_
      refine mw_goto (tgt := 15) dX7_in_11 (by decide) ?_
      exact mw_bret dX7_in_15 rfl (by first | exact Or.inl rfl | exact Or.inr rfl | exact b2i_01) (by decide) (by decide) (⟨by grind [b2i], rfl, rfl⟩)
theorem dX7_within_0 : decode fX7_within.2.1 0 = .ok (.iload_n 0, 1) := by decide +kernel
theorem dX7_within_1 : decode fX7_within.2.1 1 = .ok (.iload_n 1, 1) := by decide +kernel
theorem dX7_within_2 : decode fX7_within.2.1 2 = .ok (.if_icmp .ge 7, 3) := by decide +kernel
theorem dX7_within_5 : decode fX7_within.2.1 5 = .ok (.iload_n 1, 1) := by decide +kernel
theorem dX7_within_6 : decode fX7_within.2.1 6 = .ok (.goto 13, 3) := by decide +kernel
theorem dX7_within_9 : decode fX7_within.2.1 9 = .ok (.iload_n 0, 1) := by decide +kernel
theorem dX7_within_10 : decode fX7_within.2.1 10 = .ok (.iload_n 2, 1) := by decide +kernel
theorem dX7_within_11 : decode fX7_within.2.1 11 = .ok (.if_icmp .le 7, 3) := by decide +kernel
theorem dX7_within_14 : decode fX7_within.2.1 14 = .ok (.iload_n 2, 1) := by decide +kernel
theorem dX7_within_15 : decode fX7_within.2.1 15 = .ok (.goto 4, 3) := by decide +kernel
theorem dX7_within_18 : decode fX7_within.2.1 18 = .ok (.iload_n 0, 1) := by decide +kernel
theorem dX7_within_19 : decode fX7_within.2.1 19 = .ok (.ireturn, 1) := by decide +kernel
set_option maxRecDepth 100000 in
set_option maxHeartbeats 4000000 in
theorem ok_X7_within {X : Xb} {S : Sg} {mi : Mem} {v lo hi : Int32} : OkI 0 fX7_within X [.int v, .int lo, .int hi] S mi (clampI v lo hi) mi := by
  refine Ok.go [some (.int v), some (.int lo), some (.int hi)] (by decide) (by simp [Value.category]) (Nat.le_of_ble_eq_true rfl) rfl ?_
  refine mw_iload_n dX7_within_0 rfl ?_
  refine mw_iload_n dX7_within_1 rfl ?_
  refine mw_icmp_ge (tgt := 9) dX7_within_2 (by decide) (fun h2 => ?_) (fun h2 => ?_)
  · skip
    refine mw_iload_n dX7_within_9 rfl ?_
    refine mw_iload_n dX7_within_10 rfl ?_
    refine mw_icmp_le (tgt := 18) dX7_within_11 (by decide) (fun h11 => ?_) (fun h11 => ?_)
    · skip
      refine mw_iload_n dX7_within_18 rfl ?_
      exact mw_iret dX7_within_19 rfl (by decide) (by decide) (⟨by grind [clampI], rfl, rfl⟩)
    · skip
      refine mw_iload_n dX7_within_14 rfl ?_
      refine mw_goto (tgt := 19) dX7_within_15 (by decide) ?_
      exact mw_iret dX7_within_19 rfl (by decide) (by decide) (⟨by grind [clampI], rfl, rfl⟩)
  · skip
    refine mw_iload_n dX7_within_5 rfl ?_
    refine mw_goto (tgt := 19) dX7_within_6 (by decide) ?_
    exact mw_iret dX7_within_19 rfl (by decide) (by decide) (⟨by grind [clampI], rfl, rfl⟩)
theorem dX7_copyAll_0 : decode fX7_copyAll.2.1 0 = .ok (.iconst 0, 1) := by decide +kernel
theorem dX7_copyAll_1 : decode fX7_copyAll.2.1 1 = .ok (.istore_n 2, 1) := by decide +kernel
theorem dX7_copyAll_2 : decode fX7_copyAll.2.1 2 = .ok (.iload_n 2, 1) := by decide +kernel
theorem dX7_copyAll_3 : decode fX7_copyAll.2.1 3 = .ok (.sipush 1438, 3) := by decide +kernel
theorem dX7_copyAll_6 : decode fX7_copyAll.2.1 6 = .ok (.if_icmp .ge 15, 3) := by decide +kernel
theorem dX7_copyAll_9 : decode fX7_copyAll.2.1 9 = .ok (.aload_n 1, 1) := by decide +kernel
theorem dX7_copyAll_10 : decode fX7_copyAll.2.1 10 = .ok (.iload_n 2, 1) := by decide +kernel
theorem dX7_copyAll_11 : decode fX7_copyAll.2.1 11 = .ok (.aload_n 0, 1) := by decide +kernel
theorem dX7_copyAll_12 : decode fX7_copyAll.2.1 12 = .ok (.iload_n 2, 1) := by decide +kernel
theorem dX7_copyAll_13 : decode fX7_copyAll.2.1 13 = .ok (.iaload, 1) := by decide +kernel
theorem dX7_copyAll_14 : decode fX7_copyAll.2.1 14 = .ok (.iastore, 1) := by decide +kernel
theorem dX7_copyAll_15 : decode fX7_copyAll.2.1 15 = .ok (.iinc 2 1, 3) := by decide +kernel
theorem dX7_copyAll_18 : decode fX7_copyAll.2.1 18 = .ok (.goto (-16), 3) := by decide +kernel
theorem dX7_copyAll_21 : decode fX7_copyAll.2.1 21 = .ok (.return_, 1) := by decide +kernel
set_option maxRecDepth 100000 in
set_option maxHeartbeats 4000000 in
theorem ok_X7_copyAll {X : Xb} {S : Sg} {mi : Mem} {p q : Nat} (hp : Kd S p 8 1438) (hq : Kd S q 8 1438) (hpq : p ≠ q) : OkV 0 fX7_copyAll X [rf X p, rf X q] S mi (m_cpy mi p q 0 0 1438) := by
  refine Ok.go [some (rf X p), some (rf X q), none] (by decide) (by simp [Value.category]) (Nat.le_of_ble_eq_true rfl) rfl ?_
  have lp := mw_dn (P := fun k => MW X fX7_copyAll (rmOf 0 0 0) 0 0 2 [some (rf X p), some (rf X q), some (.int (nI k))] [] S (m_cpy mi p q 0 0 k) (mQ X 0 0 (pV S (m_cpy mi p q 0 0 1438)))) 1438 (by
    refine mw_iload_n dX7_copyAll_2 rfl ?_
    refine mw_sipush (v := 1438) dX7_copyAll_3 (by decide) ?_
    refine mw_icmp_ge (tgt := 21) dX7_copyAll_6 (by decide) (fun h6 => ?_) (fun h6 => ?_)
    · skip
      exact mw_vret dX7_copyAll_21 rfl (by decide) (by decide) (⟨rfl, rfl, rfl⟩)
    · skip
      exact absurd (by decide) h6) (fun k hk ih => by
    refine mw_iload_n dX7_copyAll_2 rfl ?_
    refine mw_sipush (v := 1438) dX7_copyAll_3 (by decide) ?_
    refine mw_icmp_ge (tgt := 21) dX7_copyAll_6 (by decide) (fun h6 => ?_) (fun h6 => ?_)
    · skip
      exact absurd h6 (nI_ge (b := 1438) (by omega) (by decide))
    · skip
      refine mw_aload_n dX7_copyAll_9 rfl ?_
      refine mw_iload_n dX7_copyAll_10 rfl ?_
      refine mw_aload_n dX7_copyAll_11 rfl ?_
      refine mw_iload_n dX7_copyAll_12 rfl ?_
      refine mw_ialdK (k := k) dX7_copyAll_13 (by assumption) (rfl) (by omega) (by decide) ?_
      refine mw_iastK (k := k) dX7_copyAll_14 (by assumption) (rfl) (by omega) (by decide) ?_
      refine mw_iincK (k := k) dX7_copyAll_15 rfl rfl (by decide) ?_
      refine mw_goto (tgt := 2) dX7_copyAll_18 (by decide) ?_
      refine MW.back ih ⟨by simp [lsub], rfl, rfl, ?_⟩
      funext i j
      simp only [m_up, m_cpy]
      grind)
  refine mw_iconst (v := 0) dX7_copyAll_0 (by decide) ?_
  refine mw_istN 2 dX7_copyAll_1 rfl (by decide) ?_
  refine MW.back lp ⟨by simp [lsub, nI_0], rfl, rfl, ?_⟩
  funext i j
  simp only [m_cpy]
  grind
theorem dX7_isAttic_0 : decode fX7_isAttic.2.1 0 = .ok (.iload_n 1, 1) := by decide +kernel
theorem dX7_isAttic_1 : decode fX7_isAttic.2.1 1 = .ok (.iconst 0, 1) := by decide +kernel
theorem dX7_isAttic_2 : decode fX7_isAttic.2.1 2 = .ok (.aload_n 0, 1) := by decide +kernel
theorem dX7_isAttic_3 : decode fX7_isAttic.2.1 3 = .ok (.getfield 9, 3) := by decide +kernel
theorem dX7_isAttic_6 : decode fX7_isAttic.2.1 6 = .ok (.iconst 1, 1) := by decide +kernel
theorem dX7_isAttic_7 : decode fX7_isAttic.2.1 7 = .ok (.iaload, 1) := by decide +kernel
theorem dX7_isAttic_8 : decode fX7_isAttic.2.1 8 = .ok (.iconst 1, 1) := by decide +kernel
theorem dX7_isAttic_9 : decode fX7_isAttic.2.1 9 = .ok (.isub, 1) := by decide +kernel
theorem dX7_isAttic_10 : decode fX7_isAttic.2.1 10 = .ok (.invokestatic 78, 3) := by decide +kernel
theorem dX7_isAttic_13 : decode fX7_isAttic.2.1 13 = .ok (.ireturn, 1) := by decide +kernel
set_option maxRecDepth 100000 in
set_option maxHeartbeats 4000000 in
theorem ok_X7_isAttic {X : Xb} {S : Sg} {mi : Mem} {o : Nat} {v : Int32} (hM : MdA S o) : OkI 1 fX7_isAttic X [rf X o, .int v] S mi (b2i (0 ≤ v ∧ v ≤ mi (o + 1) 1 - 1)) mi := by
  refine Ok.go [some (rf X o), some (.int v)] (by decide) (by simp [Value.category]) (Nat.le_of_ble_eq_true rfl) rfl ?_
  obtain ⟨k_o, ⟨r_o_now, k_o_now⟩, ⟨r_o_image, k_o_image⟩, ⟨r_o_aside, k_o_aside⟩, ⟨r_o_seen, k_o_seen⟩, ⟨r_o_unlike, k_o_unlike⟩, ⟨r_o_tape, k_o_tape⟩, ⟨r_o_keys, k_o_keys⟩, ⟨r_o_keyAt, k_o_keyAt⟩, ⟨r_o_code, k_o_code⟩, ⟨r_o_waits, k_o_waits⟩, ⟨r_o_tested, k_o_tested⟩, ⟨r_o_stack, k_o_stack⟩, ⟨r_o_facts, k_o_facts⟩, ⟨r_o_sorts, k_o_sorts⟩, ⟨r_o_sizes, k_o_sizes⟩, ⟨r_o_cells, k_o_cells⟩, ⟨r_o_holds, k_o_holds⟩, ⟨r_o_holdsA, k_o_holdsA⟩, ⟨r_o_holdsB, k_o_holdsB⟩, ⟨r_o_heldCells, k_o_heldCells⟩, ⟨r_o_moved, k_o_moved⟩, ⟨r_o_tells, k_o_tells⟩⟩ := id hM
  refine mw_iload_n dX7_isAttic_0 rfl ?_
  refine mw_iconst (v := 0) dX7_isAttic_1 (by decide) ?_
  refine mw_aload_n dX7_isAttic_2 rfl ?_
  refine mw_getr dX7_isAttic_3 fl_X7_9 rfl (by assumption) (by assumption) ?_
  refine mw_iconst (v := 1) dX7_isAttic_6 (by decide) ?_
  refine mw_ialdK (k := 1) dX7_isAttic_7 (by assumption) (rfl) (by decide) (by decide) ?_
  refine mw_iconst (v := 1) dX7_isAttic_8 (by decide) ?_
  refine mw_isub dX7_isAttic_9 ?_
  refine mw_cSI (g := fX7_in) dX7_isAttic_10 ml_X7_78 mfX7_in (ok_X7_in) rfl rfl (Nat.le_of_ble_eq_true rfl) ⟨by decide, by decide⟩ ⟨by decide, by decide⟩ ?_
  exact mw_bret dX7_isAttic_13 rfl (by first | exact Or.inl rfl | exact Or.inr rfl | exact b2i_01) (by decide) (by decide) (⟨rfl, rfl, rfl⟩)
theorem dX7_isStar_0 : decode fX7_isStar.2.1 0 = .ok (.iload_n 0, 1) := by decide +kernel
theorem dX7_isStar_1 : decode fX7_isStar.2.1 1 = .ok (.iconst 0, 1) := by decide +kernel
theorem dX7_isStar_2 : decode fX7_isStar.2.1 2 = .ok (.bipush 7, 2) := by decide +kernel
theorem dX7_isStar_4 : decode fX7_isStar.2.1 4 = .ok (.invokestatic 78, 3) := by decide +kernel
theorem dX7_isStar_7 : decode fX7_isStar.2.1 7 = .ok (.ireturn, 1) := by decide +kernel
set_option maxRecDepth 100000 in
set_option maxHeartbeats 4000000 in
theorem ok_X7_isStar {X : Xb} {S : Sg} {mi : Mem} {v : Int32} : OkI 1 fX7_isStar X [.int v] S mi (b2i (0 ≤ v ∧ v ≤ 7)) mi := by
  refine Ok.go [some (.int v)] (by decide) (by simp [Value.category]) (Nat.le_of_ble_eq_true rfl) rfl ?_
  refine mw_iload_n dX7_isStar_0 rfl ?_
  refine mw_iconst (v := 0) dX7_isStar_1 (by decide) ?_
  refine mw_bipush (v := 7) dX7_isStar_2 (by decide) ?_
  refine mw_cSI (g := fX7_in) dX7_isStar_4 ml_X7_78 mfX7_in (ok_X7_in) rfl rfl (Nat.le_of_ble_eq_true rfl) ⟨by decide, by decide⟩ ⟨by decide, by decide⟩ ?_
  exact mw_bret dX7_isStar_7 rfl (by first | exact Or.inl rfl | exact Or.inr rfl | exact b2i_01) (by decide) (by decide) (⟨rfl, rfl, rfl⟩)
theorem dX7_isBearing_0 : decode fX7_isBearing.2.1 0 = .ok (.iload_n 0, 1) := by decide +kernel
theorem dX7_isBearing_1 : decode fX7_isBearing.2.1 1 = .ok (.iconst 0, 1) := by decide +kernel
theorem dX7_isBearing_2 : decode fX7_isBearing.2.1 2 = .ok (.bipush 23, 2) := by decide +kernel
theorem dX7_isBearing_4 : decode fX7_isBearing.2.1 4 = .ok (.invokestatic 78, 3) := by decide +kernel
theorem dX7_isBearing_7 : decode fX7_isBearing.2.1 7 = .ok (.ireturn, 1) := by decide +kernel
set_option maxRecDepth 100000 in
set_option maxHeartbeats 4000000 in
theorem ok_X7_isBearing {X : Xb} {S : Sg} {mi : Mem} {v : Int32} : OkI 1 fX7_isBearing X [.int v] S mi (b2i (0 ≤ v ∧ v ≤ 23)) mi := by
  refine Ok.go [some (.int v)] (by decide) (by simp [Value.category]) (Nat.le_of_ble_eq_true rfl) rfl ?_
  refine mw_iload_n dX7_isBearing_0 rfl ?_
  refine mw_iconst (v := 0) dX7_isBearing_1 (by decide) ?_
  refine mw_bipush (v := 23) dX7_isBearing_2 (by decide) ?_
  refine mw_cSI (g := fX7_in) dX7_isBearing_4 ml_X7_78 mfX7_in (ok_X7_in) rfl rfl (Nat.le_of_ble_eq_true rfl) ⟨by decide, by decide⟩ ⟨by decide, by decide⟩ ?_
  exact mw_bret dX7_isBearing_7 rfl (by first | exact Or.inl rfl | exact Or.inr rfl | exact b2i_01) (by decide) (by decide) (⟨rfl, rfl, rfl⟩)
theorem dX7_of_0 : decode fX7_of.2.1 0 = .ok (.aload_n 0, 1) := by decide +kernel
theorem dX7_of_1 : decode fX7_of.2.1 1 = .ok (.getfield 9, 3) := by decide +kernel
theorem dX7_of_4 : decode fX7_of.2.1 4 = .ok (.bipush 26, 2) := by decide +kernel
theorem dX7_of_6 : decode fX7_of.2.1 6 = .ok (.iconst 5, 1) := by decide +kernel
theorem dX7_of_7 : decode fX7_of.2.1 7 = .ok (.iload_n 1, 1) := by decide +kernel
theorem dX7_of_8 : decode fX7_of.2.1 8 = .ok (.imul, 1) := by decide +kernel
theorem dX7_of_9 : decode fX7_of.2.1 9 = .ok (.iadd, 1) := by decide +kernel
theorem dX7_of_10 : decode fX7_of.2.1 10 = .ok (.iload_n 2, 1) := by decide +kernel
theorem dX7_of_11 : decode fX7_of.2.1 11 = .ok (.iadd, 1) := by decide +kernel
theorem dX7_of_12 : decode fX7_of.2.1 12 = .ok (.iaload, 1) := by decide +kernel
theorem dX7_of_13 : decode fX7_of.2.1 13 = .ok (.ireturn, 1) := by decide +kernel
set_option maxRecDepth 100000 in
set_option maxHeartbeats 4000000 in
theorem ok_X7_of {X : Xb} {S : Sg} {mi : Mem} {o a w : Nat} (hM : MdA S o) (ha : a < 8) (hw : w < 5) : OkI 0 fX7_of X [rf X o, .int (nI a), .int (nI w)] S mi (mi (o + 1) (26 + 5 * a + w)) mi := by
  refine Ok.go [some (rf X o), some (.int (nI a)), some (.int (nI w))] (by decide) (by simp [Value.category]) (Nat.le_of_ble_eq_true rfl) rfl ?_
  obtain ⟨k_o, ⟨r_o_now, k_o_now⟩, ⟨r_o_image, k_o_image⟩, ⟨r_o_aside, k_o_aside⟩, ⟨r_o_seen, k_o_seen⟩, ⟨r_o_unlike, k_o_unlike⟩, ⟨r_o_tape, k_o_tape⟩, ⟨r_o_keys, k_o_keys⟩, ⟨r_o_keyAt, k_o_keyAt⟩, ⟨r_o_code, k_o_code⟩, ⟨r_o_waits, k_o_waits⟩, ⟨r_o_tested, k_o_tested⟩, ⟨r_o_stack, k_o_stack⟩, ⟨r_o_facts, k_o_facts⟩, ⟨r_o_sorts, k_o_sorts⟩, ⟨r_o_sizes, k_o_sizes⟩, ⟨r_o_cells, k_o_cells⟩, ⟨r_o_holds, k_o_holds⟩, ⟨r_o_holdsA, k_o_holdsA⟩, ⟨r_o_holdsB, k_o_holdsB⟩, ⟨r_o_heldCells, k_o_heldCells⟩, ⟨r_o_moved, k_o_moved⟩, ⟨r_o_tells, k_o_tells⟩⟩ := id hM
  refine mw_aload_n dX7_of_0 rfl ?_
  refine mw_getr dX7_of_1 fl_X7_9 rfl (by assumption) (by assumption) ?_
  refine mw_bipush (v := 26) dX7_of_4 (by decide) ?_
  refine mw_iconst (v := 5) dX7_of_6 (by decide) ?_
  refine mw_iload_n dX7_of_7 rfl ?_
  refine mw_imul dX7_of_8 ?_
  refine mw_iadd dX7_of_9 ?_
  refine mw_iload_n dX7_of_10 rfl ?_
  refine mw_iadd dX7_of_11 ?_
  refine mw_ialdK (k := 26 + 5 * a + w) dX7_of_12 (by assumption) (ixA a w) (by omega) (by decide) ?_
  exact mw_iret dX7_of_13 rfl (by decide) (by decide) (⟨rfl, rfl, rfl⟩)
theorem dX7_put_0 : decode fX7_put.2.1 0 = .ok (.aload_n 0, 1) := by decide +kernel
theorem dX7_put_1 : decode fX7_put.2.1 1 = .ok (.getfield 9, 3) := by decide +kernel
theorem dX7_put_4 : decode fX7_put.2.1 4 = .ok (.bipush 26, 2) := by decide +kernel
theorem dX7_put_6 : decode fX7_put.2.1 6 = .ok (.iconst 5, 1) := by decide +kernel
theorem dX7_put_7 : decode fX7_put.2.1 7 = .ok (.iload_n 1, 1) := by decide +kernel
theorem dX7_put_8 : decode fX7_put.2.1 8 = .ok (.imul, 1) := by decide +kernel
theorem dX7_put_9 : decode fX7_put.2.1 9 = .ok (.iadd, 1) := by decide +kernel
theorem dX7_put_10 : decode fX7_put.2.1 10 = .ok (.iload_n 2, 1) := by decide +kernel
theorem dX7_put_11 : decode fX7_put.2.1 11 = .ok (.iadd, 1) := by decide +kernel
theorem dX7_put_12 : decode fX7_put.2.1 12 = .ok (.iload_n 3, 1) := by decide +kernel
theorem dX7_put_13 : decode fX7_put.2.1 13 = .ok (.iastore, 1) := by decide +kernel
theorem dX7_put_14 : decode fX7_put.2.1 14 = .ok (.return_, 1) := by decide +kernel
set_option maxRecDepth 100000 in
set_option maxHeartbeats 4000000 in
theorem ok_X7_put {X : Xb} {S : Sg} {mi : Mem} {o a w : Nat} {v : Int32} (hM : MdA S o) (ha : a < 8) (hw : w < 5) : OkV 0 fX7_put X [rf X o, .int (nI a), .int (nI w), .int v] S mi (m_up mi (o + 1) (26 + 5 * a + w) v) := by
  refine Ok.go [some (rf X o), some (.int (nI a)), some (.int (nI w)), some (.int v)] (by decide) (by simp [Value.category]) (Nat.le_of_ble_eq_true rfl) rfl ?_
  obtain ⟨k_o, ⟨r_o_now, k_o_now⟩, ⟨r_o_image, k_o_image⟩, ⟨r_o_aside, k_o_aside⟩, ⟨r_o_seen, k_o_seen⟩, ⟨r_o_unlike, k_o_unlike⟩, ⟨r_o_tape, k_o_tape⟩, ⟨r_o_keys, k_o_keys⟩, ⟨r_o_keyAt, k_o_keyAt⟩, ⟨r_o_code, k_o_code⟩, ⟨r_o_waits, k_o_waits⟩, ⟨r_o_tested, k_o_tested⟩, ⟨r_o_stack, k_o_stack⟩, ⟨r_o_facts, k_o_facts⟩, ⟨r_o_sorts, k_o_sorts⟩, ⟨r_o_sizes, k_o_sizes⟩, ⟨r_o_cells, k_o_cells⟩, ⟨r_o_holds, k_o_holds⟩, ⟨r_o_holdsA, k_o_holdsA⟩, ⟨r_o_holdsB, k_o_holdsB⟩, ⟨r_o_heldCells, k_o_heldCells⟩, ⟨r_o_moved, k_o_moved⟩, ⟨r_o_tells, k_o_tells⟩⟩ := id hM
  refine mw_aload_n dX7_put_0 rfl ?_
  refine mw_getr dX7_put_1 fl_X7_9 rfl (by assumption) (by assumption) ?_
  refine mw_bipush (v := 26) dX7_put_4 (by decide) ?_
  refine mw_iconst (v := 5) dX7_put_6 (by decide) ?_
  refine mw_iload_n dX7_put_7 rfl ?_
  refine mw_imul dX7_put_8 ?_
  refine mw_iadd dX7_put_9 ?_
  refine mw_iload_n dX7_put_10 rfl ?_
  refine mw_iadd dX7_put_11 ?_
  refine mw_iload_n dX7_put_12 rfl ?_
  refine mw_iastK (k := 26 + 5 * a + w) dX7_put_13 (by assumption) (ixA a w) (by omega) (by decide) ?_
  exact mw_vret dX7_put_14 rfl (by decide) (by decide) (⟨rfl, rfl, rfl⟩)
theorem dX7_swaps_0 : decode fX7_swaps.2.1 0 = .ok (.aload_n 0, 1) := by decide +kernel
theorem dX7_swaps_1 : decode fX7_swaps.2.1 1 = .ok (.getfield 9, 3) := by decide +kernel
theorem dX7_swaps_4 : decode fX7_swaps.2.1 4 = .ok (.iload_n 1, 1) := by decide +kernel
theorem dX7_swaps_5 : decode fX7_swaps.2.1 5 = .ok (.iaload, 1) := by decide +kernel
theorem dX7_swaps_6 : decode fX7_swaps.2.1 6 = .ok (.istore_n 3, 1) := by decide +kernel
theorem dX7_swaps_7 : decode fX7_swaps.2.1 7 = .ok (.aload_n 0, 1) := by decide +kernel
theorem dX7_swaps_8 : decode fX7_swaps.2.1 8 = .ok (.getfield 9, 3) := by decide +kernel
theorem dX7_swaps_11 : decode fX7_swaps.2.1 11 = .ok (.iload_n 1, 1) := by decide +kernel
theorem dX7_swaps_12 : decode fX7_swaps.2.1 12 = .ok (.iload_n 2, 1) := by decide +kernel
theorem dX7_swaps_13 : decode fX7_swaps.2.1 13 = .ok (.iastore, 1) := by decide +kernel
theorem dX7_swaps_14 : decode fX7_swaps.2.1 14 = .ok (.iload_n 3, 1) := by decide +kernel
theorem dX7_swaps_15 : decode fX7_swaps.2.1 15 = .ok (.ireturn, 1) := by decide +kernel
set_option maxRecDepth 100000 in
set_option maxHeartbeats 4000000 in
theorem ok_X7_swaps {X : Xb} {S : Sg} {mi : Mem} {o s : Nat} {v : Int32} (hM : MdA S o) (hs : s < 1438) : OkI 0 fX7_swaps X [rf X o, .int (nI s), .int v] S mi (mi (o + 1) s) (m_up mi (o + 1) s v) := by
  refine Ok.go [some (rf X o), some (.int (nI s)), some (.int v), none] (by decide) (by simp [Value.category]) (Nat.le_of_ble_eq_true rfl) rfl ?_
  obtain ⟨k_o, ⟨r_o_now, k_o_now⟩, ⟨r_o_image, k_o_image⟩, ⟨r_o_aside, k_o_aside⟩, ⟨r_o_seen, k_o_seen⟩, ⟨r_o_unlike, k_o_unlike⟩, ⟨r_o_tape, k_o_tape⟩, ⟨r_o_keys, k_o_keys⟩, ⟨r_o_keyAt, k_o_keyAt⟩, ⟨r_o_code, k_o_code⟩, ⟨r_o_waits, k_o_waits⟩, ⟨r_o_tested, k_o_tested⟩, ⟨r_o_stack, k_o_stack⟩, ⟨r_o_facts, k_o_facts⟩, ⟨r_o_sorts, k_o_sorts⟩, ⟨r_o_sizes, k_o_sizes⟩, ⟨r_o_cells, k_o_cells⟩, ⟨r_o_holds, k_o_holds⟩, ⟨r_o_holdsA, k_o_holdsA⟩, ⟨r_o_holdsB, k_o_holdsB⟩, ⟨r_o_heldCells, k_o_heldCells⟩, ⟨r_o_moved, k_o_moved⟩, ⟨r_o_tells, k_o_tells⟩⟩ := id hM
  refine mw_aload_n dX7_swaps_0 rfl ?_
  refine mw_getr dX7_swaps_1 fl_X7_9 rfl (by assumption) (by assumption) ?_
  refine mw_iload_n dX7_swaps_4 rfl ?_
  refine mw_ialdK (k := s) dX7_swaps_5 (by assumption) (rfl) (hs) (by decide) ?_
  refine mw_istN 3 dX7_swaps_6 rfl (by decide) ?_
  refine mw_aload_n dX7_swaps_7 rfl ?_
  refine mw_getr dX7_swaps_8 fl_X7_9 rfl (by assumption) (by assumption) ?_
  refine mw_iload_n dX7_swaps_11 rfl ?_
  refine mw_iload_n dX7_swaps_12 rfl ?_
  refine mw_iastK (k := s) dX7_swaps_13 (by assumption) (rfl) (hs) (by decide) ?_
  refine mw_iload_n dX7_swaps_14 rfl ?_
  exact mw_iret dX7_swaps_15 rfl (by decide) (by decide) (⟨rfl, rfl, rfl⟩)
theorem dX7_off_0 : decode fX7_off.2.1 0 = .ok (.iload_n 0, 1) := by decide +kernel
theorem dX7_off_1 : decode fX7_off.2.1 1 = .ok (.ifCond .ge 8, 3) := by decide +kernel
theorem dX7_off_4 : decode fX7_off.2.1 4 = .ok (.iload_n 0, 1) := by decide +kernel
theorem dX7_off_5 : decode fX7_off.2.1 5 = .ok (.ineg, 1) := by decide +kernel
theorem dX7_off_6 : decode fX7_off.2.1 6 = .ok (.goto 4, 3) := by decide +kernel
theorem dX7_off_9 : decode fX7_off.2.1 9 = .ok (.iload_n 0, 1) := by decide +kernel
theorem dX7_off_10 : decode fX7_off.2.1 10 = .ok (.ireturn, 1) := by decide +kernel
set_option maxRecDepth 100000 in
set_option maxHeartbeats 4000000 in
theorem ok_X7_off {X : Xb} {S : Sg} {mi : Mem} {v : Int32} : OkI 0 fX7_off X [.int v] S mi (if 0 ≤ v then v else -v) mi := by
  refine Ok.go [some (.int v)] (by decide) (by simp [Value.category]) (Nat.le_of_ble_eq_true rfl) rfl ?_
  refine mw_iload_n dX7_off_0 rfl ?_
  refine mw_if_ge (tgt := 9) dX7_off_1 (by decide) (fun h1 => ?_) (fun h1 => ?_)
  · skip
    refine mw_iload_n dX7_off_9 rfl ?_
    exact mw_iret dX7_off_10 rfl (by decide) (by decide) (⟨by simp [*], rfl, rfl⟩)
  · skip
    refine mw_iload_n dX7_off_4 rfl ?_
    refine mw_ineg dX7_off_5 ?_
    refine mw_goto (tgt := 10) dX7_off_6 (by decide) ?_
    exact mw_iret dX7_off_10 rfl (by decide) (by decide) (⟨by simp [*], rfl, rfl⟩)
def mWide (hour kind width : Int32) : Int32 := if kind = 1 ∨ kind = 3 then width / 2 + 1 else if kind = 2 then width + 2 else if kind = 4 then clampI (2 * (width + 2)) 0 24 else if kind = 5 then (if jr hour 2 = 0 then width else 0) else width
theorem dX7_wideBy_0 : decode fX7_wideBy.2.1 0 = .ok (.iload_n 1, 1) := by decide +kernel
theorem dX7_wideBy_1 : decode fX7_wideBy.2.1 1 = .ok (.tableswitch 74 1 5 #[35, 41, 35, 45, 57], 35) := by decide +kernel
theorem dX7_wideBy_36 : decode fX7_wideBy.2.1 36 = .ok (.iload_n 2, 1) := by decide +kernel
theorem dX7_wideBy_37 : decode fX7_wideBy.2.1 37 = .ok (.iconst 2, 1) := by decide +kernel
theorem dX7_wideBy_38 : decode fX7_wideBy.2.1 38 = .ok (.idiv, 1) := by decide +kernel
theorem dX7_wideBy_39 : decode fX7_wideBy.2.1 39 = .ok (.iconst 1, 1) := by decide +kernel
theorem dX7_wideBy_40 : decode fX7_wideBy.2.1 40 = .ok (.iadd, 1) := by decide +kernel
theorem dX7_wideBy_41 : decode fX7_wideBy.2.1 41 = .ok (.ireturn, 1) := by decide +kernel
theorem dX7_wideBy_42 : decode fX7_wideBy.2.1 42 = .ok (.iload_n 2, 1) := by decide +kernel
theorem dX7_wideBy_43 : decode fX7_wideBy.2.1 43 = .ok (.iconst 2, 1) := by decide +kernel
theorem dX7_wideBy_44 : decode fX7_wideBy.2.1 44 = .ok (.iadd, 1) := by decide +kernel
theorem dX7_wideBy_45 : decode fX7_wideBy.2.1 45 = .ok (.ireturn, 1) := by decide +kernel
theorem dX7_wideBy_46 : decode fX7_wideBy.2.1 46 = .ok (.iconst 2, 1) := by decide +kernel
theorem dX7_wideBy_47 : decode fX7_wideBy.2.1 47 = .ok (.iload_n 2, 1) := by decide +kernel
theorem dX7_wideBy_48 : decode fX7_wideBy.2.1 48 = .ok (.iconst 2, 1) := by decide +kernel
theorem dX7_wideBy_49 : decode fX7_wideBy.2.1 49 = .ok (.iadd, 1) := by decide +kernel
theorem dX7_wideBy_50 : decode fX7_wideBy.2.1 50 = .ok (.imul, 1) := by decide +kernel
theorem dX7_wideBy_51 : decode fX7_wideBy.2.1 51 = .ok (.iconst 0, 1) := by decide +kernel
theorem dX7_wideBy_52 : decode fX7_wideBy.2.1 52 = .ok (.bipush 24, 2) := by decide +kernel
theorem dX7_wideBy_54 : decode fX7_wideBy.2.1 54 = .ok (.invokestatic 82, 3) := by decide +kernel
theorem dX7_wideBy_57 : decode fX7_wideBy.2.1 57 = .ok (.ireturn, 1) := by decide +kernel
theorem dX7_wideBy_58 : decode fX7_wideBy.2.1 58 = .ok (.aload_n 0, 1) := by decide +kernel
theorem dX7_wideBy_59 : decode fX7_wideBy.2.1 59 = .ok (.getfield 9, 3) := by decide +kernel
theorem dX7_wideBy_62 : decode fX7_wideBy.2.1 62 = .ok (.iconst 2, 1) := by decide +kernel
theorem dX7_wideBy_63 : decode fX7_wideBy.2.1 63 = .ok (.iaload, 1) := by decide +kernel
theorem dX7_wideBy_64 : decode fX7_wideBy.2.1 64 = .ok (.iconst 2, 1) := by decide +kernel
theorem dX7_wideBy_65 : decode fX7_wideBy.2.1 65 = .ok (.irem, 1) := by decide +kernel
theorem dX7_wideBy_66 : decode fX7_wideBy.2.1 66 = .ok (.ifCond .ne 7, 3) := by decide +kernel
theorem dX7_wideBy_69 : decode fX7_wideBy.2.1 69 = .ok (.iload_n 2, 1) := by decide +kernel
theorem dX7_wideBy_70 : decode fX7_wideBy.2.1 70 = .ok (.goto 4, 3) := by decide +kernel
theorem dX7_wideBy_73 : decode fX7_wideBy.2.1 73 = .ok (.iconst 0, 1) := by decide +kernel
theorem dX7_wideBy_74 : decode fX7_wideBy.2.1 74 = .ok (.ireturn, 1) := by decide +kernel
theorem dX7_wideBy_75 : decode fX7_wideBy.2.1 75 = .ok (.iload_n 2, 1) := by decide +kernel
theorem dX7_wideBy_76 : decode fX7_wideBy.2.1 76 = .ok (.ireturn, 1) := by decide +kernel
set_option maxRecDepth 100000 in
set_option maxHeartbeats 4000000 in
theorem ok_X7_wideBy {X : Xb} {S : Sg} {mi : Mem} {o : Nat} {k w : Int32} (hM : MdA S o) : OkI 1 fX7_wideBy X [rf X o, .int k, .int w] S mi (mWide (mi (o + 1) 2) k w) mi := by
  refine Ok.go [some (rf X o), some (.int k), some (.int w)] (by decide) (by simp [Value.category]) (Nat.le_of_ble_eq_true rfl) rfl ?_
  obtain ⟨k_o, ⟨r_o_now, k_o_now⟩, ⟨r_o_image, k_o_image⟩, ⟨r_o_aside, k_o_aside⟩, ⟨r_o_seen, k_o_seen⟩, ⟨r_o_unlike, k_o_unlike⟩, ⟨r_o_tape, k_o_tape⟩, ⟨r_o_keys, k_o_keys⟩, ⟨r_o_keyAt, k_o_keyAt⟩, ⟨r_o_code, k_o_code⟩, ⟨r_o_waits, k_o_waits⟩, ⟨r_o_tested, k_o_tested⟩, ⟨r_o_stack, k_o_stack⟩, ⟨r_o_facts, k_o_facts⟩, ⟨r_o_sorts, k_o_sorts⟩, ⟨r_o_sizes, k_o_sizes⟩, ⟨r_o_cells, k_o_cells⟩, ⟨r_o_holds, k_o_holds⟩, ⟨r_o_holdsA, k_o_holdsA⟩, ⟨r_o_holdsB, k_o_holdsB⟩, ⟨r_o_heldCells, k_o_heldCells⟩, ⟨r_o_moved, k_o_moved⟩, ⟨r_o_tells, k_o_tells⟩⟩ := id hM
  refine mw_iload_n dX7_wideBy_0 rfl ?_
  refine mw_ts1 dX7_wideBy_1 (by decide) 1 36 (by decide) (fun h1_1 => ?_) (fun h1_1 => ?_)
  · skip
    refine mw_iload_n dX7_wideBy_36 rfl ?_
    refine mw_iconst (v := 2) dX7_wideBy_37 (by decide) ?_
    refine mw_idiv dX7_wideBy_38 (by decide) ?_
    refine mw_iconst (v := 1) dX7_wideBy_39 (by decide) ?_
    refine mw_iadd dX7_wideBy_40 ?_
    exact mw_iret dX7_wideBy_41 rfl (by decide) (by decide) (⟨by simp [mWide, *], rfl, rfl⟩)
  refine mw_ts1 dX7_wideBy_1 (by decide) 2 42 (by decide) (fun h1_2 => ?_) (fun h1_2 => ?_)
  · skip
    refine mw_iload_n dX7_wideBy_42 rfl ?_
    refine mw_iconst (v := 2) dX7_wideBy_43 (by decide) ?_
    refine mw_iadd dX7_wideBy_44 ?_
    exact mw_iret dX7_wideBy_45 rfl (by decide) (by decide) (⟨by simp [mWide, *], rfl, rfl⟩)
  refine mw_ts1 dX7_wideBy_1 (by decide) 3 36 (by decide) (fun h1_3 => ?_) (fun h1_3 => ?_)
  · skip
    refine mw_iload_n dX7_wideBy_36 rfl ?_
    refine mw_iconst (v := 2) dX7_wideBy_37 (by decide) ?_
    refine mw_idiv dX7_wideBy_38 (by decide) ?_
    refine mw_iconst (v := 1) dX7_wideBy_39 (by decide) ?_
    refine mw_iadd dX7_wideBy_40 ?_
    exact mw_iret dX7_wideBy_41 rfl (by decide) (by decide) (⟨by simp [mWide, *], rfl, rfl⟩)
  refine mw_ts1 dX7_wideBy_1 (by decide) 4 46 (by decide) (fun h1_4 => ?_) (fun h1_4 => ?_)
  · skip
    refine mw_iconst (v := 2) dX7_wideBy_46 (by decide) ?_
    refine mw_iload_n dX7_wideBy_47 rfl ?_
    refine mw_iconst (v := 2) dX7_wideBy_48 (by decide) ?_
    refine mw_iadd dX7_wideBy_49 ?_
    refine mw_imul dX7_wideBy_50 ?_
    refine mw_iconst (v := 0) dX7_wideBy_51 (by decide) ?_
    refine mw_bipush (v := 24) dX7_wideBy_52 (by decide) ?_
    refine mw_cSI (g := fX7_within) dX7_wideBy_54 ml_X7_82 mfX7_within (ok_X7_within) rfl rfl (Nat.le_of_ble_eq_true rfl) ⟨by decide, by decide⟩ ⟨by decide, by decide⟩ ?_
    exact mw_iret dX7_wideBy_57 rfl (by decide) (by decide) (⟨by simp [mWide, *], rfl, rfl⟩)
  refine mw_ts1 dX7_wideBy_1 (by decide) 5 58 (by decide) (fun h1_5 => ?_) (fun h1_5 => ?_)
  · skip
    refine mw_aload_n dX7_wideBy_58 rfl ?_
    refine mw_getr dX7_wideBy_59 fl_X7_9 rfl (by assumption) (by assumption) ?_
    refine mw_iconst (v := 2) dX7_wideBy_62 (by decide) ?_
    refine mw_ialdK (k := 2) dX7_wideBy_63 (by assumption) (rfl) (by decide) (by decide) ?_
    refine mw_iconst (v := 2) dX7_wideBy_64 (by decide) ?_
    refine mw_irem dX7_wideBy_65 (by decide) ?_
    refine mw_if_ne (tgt := 73) dX7_wideBy_66 (by decide) (fun h66 => ?_) (fun h66 => ?_)
    · skip
      refine mw_iconst (v := 0) dX7_wideBy_73 (by decide) ?_
      exact mw_iret dX7_wideBy_74 rfl (by decide) (by decide) (⟨by simp [mWide, *], rfl, rfl⟩)
    · skip
      refine mw_iload_n dX7_wideBy_69 rfl ?_
      refine mw_goto (tgt := 74) dX7_wideBy_70 (by decide) ?_
      exact mw_iret dX7_wideBy_74 rfl (by decide) (by decide) (⟨by simp [mWide, *], rfl, rfl⟩)
  refine mw_ts0 dX7_wideBy_1 (by decide) 75 (by decide) (by have e0 := ne_toI (n := 1) (by decide) h1_1; have e1 := ne_toI (n := 2) (by decide) h1_2; have e2 := ne_toI (n := 3) (by decide) h1_3; have e3 := ne_toI (n := 4) (by decide) h1_4; have e4 := ne_toI (n := 5) (by decide) h1_5; omega) ?_
  refine mw_iload_n dX7_wideBy_75 rfl ?_
  exact mw_iret dX7_wideBy_76 rfl (by decide) (by decide) (⟨by simp [mWide, *], rfl, rfl⟩)
theorem dX7_wideOf_0 : decode fX7_wideOf.2.1 0 = .ok (.aload_n 0, 1) := by decide +kernel
theorem dX7_wideOf_1 : decode fX7_wideOf.2.1 1 = .ok (.aload_n 0, 1) := by decide +kernel
theorem dX7_wideOf_2 : decode fX7_wideOf.2.1 2 = .ok (.iload_n 1, 1) := by decide +kernel
theorem dX7_wideOf_3 : decode fX7_wideOf.2.1 3 = .ok (.iconst 0, 1) := by decide +kernel
theorem dX7_wideOf_4 : decode fX7_wideOf.2.1 4 = .ok (.invokevirtual 86, 3) := by decide +kernel
theorem dX7_wideOf_7 : decode fX7_wideOf.2.1 7 = .ok (.aload_n 0, 1) := by decide +kernel
theorem dX7_wideOf_8 : decode fX7_wideOf.2.1 8 = .ok (.iload_n 1, 1) := by decide +kernel
theorem dX7_wideOf_9 : decode fX7_wideOf.2.1 9 = .ok (.iconst 2, 1) := by decide +kernel
theorem dX7_wideOf_10 : decode fX7_wideOf.2.1 10 = .ok (.invokevirtual 86, 3) := by decide +kernel
theorem dX7_wideOf_13 : decode fX7_wideOf.2.1 13 = .ok (.invokevirtual 90, 3) := by decide +kernel
theorem dX7_wideOf_16 : decode fX7_wideOf.2.1 16 = .ok (.ireturn, 1) := by decide +kernel
set_option maxRecDepth 100000 in
set_option maxHeartbeats 4000000 in
theorem ok_X7_wideOf {X : Xb} {S : Sg} {mi : Mem} {o a : Nat} (hM : MdA S o) (ha : a < 8) : OkI 2 fX7_wideOf X [rf X o, .int (nI a)] S mi (mWide (mi (o + 1) 2) (mi (o + 1) (26 + 5 * a)) (mi (o + 1) (26 + 5 * a + 2))) mi := by
  refine Ok.go [some (rf X o), some (.int (nI a))] (by decide) (by simp [Value.category]) (Nat.le_of_ble_eq_true rfl) rfl ?_
  obtain ⟨k_o, ⟨r_o_now, k_o_now⟩, ⟨r_o_image, k_o_image⟩, ⟨r_o_aside, k_o_aside⟩, ⟨r_o_seen, k_o_seen⟩, ⟨r_o_unlike, k_o_unlike⟩, ⟨r_o_tape, k_o_tape⟩, ⟨r_o_keys, k_o_keys⟩, ⟨r_o_keyAt, k_o_keyAt⟩, ⟨r_o_code, k_o_code⟩, ⟨r_o_waits, k_o_waits⟩, ⟨r_o_tested, k_o_tested⟩, ⟨r_o_stack, k_o_stack⟩, ⟨r_o_facts, k_o_facts⟩, ⟨r_o_sorts, k_o_sorts⟩, ⟨r_o_sizes, k_o_sizes⟩, ⟨r_o_cells, k_o_cells⟩, ⟨r_o_holds, k_o_holds⟩, ⟨r_o_holdsA, k_o_holdsA⟩, ⟨r_o_holdsB, k_o_holdsB⟩, ⟨r_o_heldCells, k_o_heldCells⟩, ⟨r_o_moved, k_o_moved⟩, ⟨r_o_tells, k_o_tells⟩⟩ := id hM
  refine mw_aload_n dX7_wideOf_0 rfl ?_
  refine mw_aload_n dX7_wideOf_1 rfl ?_
  refine mw_iload_n dX7_wideOf_2 rfl ?_
  refine mw_iconst (v := 0) dX7_wideOf_3 (by decide) ?_
  refine mw_cVI (g := fX7_of) dX7_wideOf_4 ml_X7_86 mfX7_of (ok_X7_of hM (a := a) (w := 0) ha (by decide)) (by assumption) rfl rfl (Nat.le_of_ble_eq_true rfl) ⟨by decide, by decide⟩ ⟨by decide, by decide⟩ ?_
  refine mw_aload_n dX7_wideOf_7 rfl ?_
  refine mw_iload_n dX7_wideOf_8 rfl ?_
  refine mw_iconst (v := 2) dX7_wideOf_9 (by decide) ?_
  refine mw_cVI (g := fX7_of) dX7_wideOf_10 ml_X7_86 mfX7_of (ok_X7_of hM (a := a) (w := 2) ha (by decide)) (by assumption) rfl rfl (Nat.le_of_ble_eq_true rfl) ⟨by decide, by decide⟩ ⟨by decide, by decide⟩ ?_
  refine mw_cVI (g := fX7_wideBy) dX7_wideOf_13 ml_X7_90 mfX7_wideBy (ok_X7_wideBy hM) (by assumption) rfl rfl (Nat.le_of_ble_eq_true rfl) ⟨by decide, by decide⟩ ⟨by decide, by decide⟩ ?_
  exact mw_iret dX7_wideOf_16 rfl (by decide) (by decide) (⟨rfl, rfl, rfl⟩)
theorem dX7_worthOf_0 : decode fX7_worthOf.2.1 0 = .ok (.aload_n 0, 1) := by decide +kernel
theorem dX7_worthOf_1 : decode fX7_worthOf.2.1 1 = .ok (.iload_n 1, 1) := by decide +kernel
theorem dX7_worthOf_2 : decode fX7_worthOf.2.1 2 = .ok (.iconst 2, 1) := by decide +kernel
theorem dX7_worthOf_3 : decode fX7_worthOf.2.1 3 = .ok (.invokevirtual 86, 3) := by decide +kernel
theorem dX7_worthOf_6 : decode fX7_worthOf.2.1 6 = .ok (.ireturn, 1) := by decide +kernel
set_option maxRecDepth 100000 in
set_option maxHeartbeats 4000000 in
theorem ok_X7_worthOf {X : Xb} {S : Sg} {mi : Mem} {o a : Nat} (hM : MdA S o) (ha : a < 8) : OkI 1 fX7_worthOf X [rf X o, .int (nI a)] S mi (mi (o + 1) (26 + 5 * a + 2)) mi := by
  refine Ok.go [some (rf X o), some (.int (nI a))] (by decide) (by simp [Value.category]) (Nat.le_of_ble_eq_true rfl) rfl ?_
  obtain ⟨k_o, ⟨r_o_now, k_o_now⟩, ⟨r_o_image, k_o_image⟩, ⟨r_o_aside, k_o_aside⟩, ⟨r_o_seen, k_o_seen⟩, ⟨r_o_unlike, k_o_unlike⟩, ⟨r_o_tape, k_o_tape⟩, ⟨r_o_keys, k_o_keys⟩, ⟨r_o_keyAt, k_o_keyAt⟩, ⟨r_o_code, k_o_code⟩, ⟨r_o_waits, k_o_waits⟩, ⟨r_o_tested, k_o_tested⟩, ⟨r_o_stack, k_o_stack⟩, ⟨r_o_facts, k_o_facts⟩, ⟨r_o_sorts, k_o_sorts⟩, ⟨r_o_sizes, k_o_sizes⟩, ⟨r_o_cells, k_o_cells⟩, ⟨r_o_holds, k_o_holds⟩, ⟨r_o_holdsA, k_o_holdsA⟩, ⟨r_o_holdsB, k_o_holdsB⟩, ⟨r_o_heldCells, k_o_heldCells⟩, ⟨r_o_moved, k_o_moved⟩, ⟨r_o_tells, k_o_tells⟩⟩ := id hM
  refine mw_aload_n dX7_worthOf_0 rfl ?_
  refine mw_iload_n dX7_worthOf_1 rfl ?_
  refine mw_iconst (v := 2) dX7_worthOf_2 (by decide) ?_
  refine mw_cVI (g := fX7_of) dX7_worthOf_3 ml_X7_86 mfX7_of (ok_X7_of hM (a := a) (w := 2) ha (by decide)) (by assumption) rfl rfl (Nat.le_of_ble_eq_true rfl) ⟨by decide, by decide⟩ ⟨by decide, by decide⟩ ?_
  exact mw_iret dX7_worthOf_6 rfl (by decide) (by decide) (⟨rfl, rfl, rfl⟩)
theorem dX7_standsAt_0 : decode fX7_standsAt.2.1 0 = .ok (.aload_n 0, 1) := by decide +kernel
theorem dX7_standsAt_1 : decode fX7_standsAt.2.1 1 = .ok (.getfield 9, 3) := by decide +kernel
theorem dX7_standsAt_4 : decode fX7_standsAt.2.1 4 = .ok (.bipush 10, 2) := by decide +kernel
theorem dX7_standsAt_6 : decode fX7_standsAt.2.1 6 = .ok (.iload_n 1, 1) := by decide +kernel
theorem dX7_standsAt_7 : decode fX7_standsAt.2.1 7 = .ok (.iadd, 1) := by decide +kernel
theorem dX7_standsAt_8 : decode fX7_standsAt.2.1 8 = .ok (.iaload, 1) := by decide +kernel
theorem dX7_standsAt_9 : decode fX7_standsAt.2.1 9 = .ok (.aload_n 0, 1) := by decide +kernel
theorem dX7_standsAt_10 : decode fX7_standsAt.2.1 10 = .ok (.getfield 9, 3) := by decide +kernel
theorem dX7_standsAt_13 : decode fX7_standsAt.2.1 13 = .ok (.iconst 2, 1) := by decide +kernel
theorem dX7_standsAt_14 : decode fX7_standsAt.2.1 14 = .ok (.iaload, 1) := by decide +kernel
theorem dX7_standsAt_15 : decode fX7_standsAt.2.1 15 = .ok (.iadd, 1) := by decide +kernel
theorem dX7_standsAt_16 : decode fX7_standsAt.2.1 16 = .ok (.bipush 24, 2) := by decide +kernel
theorem dX7_standsAt_18 : decode fX7_standsAt.2.1 18 = .ok (.irem, 1) := by decide +kernel
theorem dX7_standsAt_19 : decode fX7_standsAt.2.1 19 = .ok (.ireturn, 1) := by decide +kernel
set_option maxRecDepth 100000 in
set_option maxHeartbeats 4000000 in
theorem ok_X7_standsAt {X : Xb} {S : Sg} {mi : Mem} {o k : Nat} (hM : MdA S o) (hk : k < 8) : OkI 0 fX7_standsAt X [rf X o, .int (nI k)] S mi (jr (mi (o + 1) (10 + k) + mi (o + 1) 2) 24) mi := by
  refine Ok.go [some (rf X o), some (.int (nI k))] (by decide) (by simp [Value.category]) (Nat.le_of_ble_eq_true rfl) rfl ?_
  obtain ⟨k_o, ⟨r_o_now, k_o_now⟩, ⟨r_o_image, k_o_image⟩, ⟨r_o_aside, k_o_aside⟩, ⟨r_o_seen, k_o_seen⟩, ⟨r_o_unlike, k_o_unlike⟩, ⟨r_o_tape, k_o_tape⟩, ⟨r_o_keys, k_o_keys⟩, ⟨r_o_keyAt, k_o_keyAt⟩, ⟨r_o_code, k_o_code⟩, ⟨r_o_waits, k_o_waits⟩, ⟨r_o_tested, k_o_tested⟩, ⟨r_o_stack, k_o_stack⟩, ⟨r_o_facts, k_o_facts⟩, ⟨r_o_sorts, k_o_sorts⟩, ⟨r_o_sizes, k_o_sizes⟩, ⟨r_o_cells, k_o_cells⟩, ⟨r_o_holds, k_o_holds⟩, ⟨r_o_holdsA, k_o_holdsA⟩, ⟨r_o_holdsB, k_o_holdsB⟩, ⟨r_o_heldCells, k_o_heldCells⟩, ⟨r_o_moved, k_o_moved⟩, ⟨r_o_tells, k_o_tells⟩⟩ := id hM
  refine mw_aload_n dX7_standsAt_0 rfl ?_
  refine mw_getr dX7_standsAt_1 fl_X7_9 rfl (by assumption) (by assumption) ?_
  refine mw_bipush (v := 10) dX7_standsAt_4 (by decide) ?_
  refine mw_iload_n dX7_standsAt_6 rfl ?_
  refine mw_iadd dX7_standsAt_7 ?_
  refine mw_ialdK (k := 10 + k) dX7_standsAt_8 (by assumption) (ix10 k) (by omega) (by decide) ?_
  refine mw_aload_n dX7_standsAt_9 rfl ?_
  refine mw_getr dX7_standsAt_10 fl_X7_9 rfl (by assumption) (by assumption) ?_
  refine mw_iconst (v := 2) dX7_standsAt_13 (by decide) ?_
  refine mw_ialdK (k := 2) dX7_standsAt_14 (by assumption) (rfl) (by decide) (by decide) ?_
  refine mw_iadd dX7_standsAt_15 ?_
  refine mw_bipush (v := 24) dX7_standsAt_16 (by decide) ?_
  refine mw_irem dX7_standsAt_18 (by decide) ?_
  exact mw_iret dX7_standsAt_19 rfl (by decide) (by decide) (⟨rfl, rfl, rfl⟩)
def mHidB (chim kind b : Int32) : Bool := decide ((chim >>> (b &&& 31)) &&& 1 = 1) && !decide (kind = 4) && (!decide (kind = 2) || decide (jr b 2 = 1))
theorem dX7_isHidden_0 : decode fX7_isHidden.2.1 0 = .ok (.aload_n 0, 1) := by decide +kernel
theorem dX7_isHidden_1 : decode fX7_isHidden.2.1 1 = .ok (.getfield 9, 3) := by decide +kernel
theorem dX7_isHidden_4 : decode fX7_isHidden.2.1 4 = .ok (.bipush 9, 2) := by decide +kernel
theorem dX7_isHidden_6 : decode fX7_isHidden.2.1 6 = .ok (.iaload, 1) := by decide +kernel
theorem dX7_isHidden_7 : decode fX7_isHidden.2.1 7 = .ok (.iload_n 2, 1) := by decide +kernel
theorem dX7_isHidden_8 : decode fX7_isHidden.2.1 8 = .ok (.ishr, 1) := by decide +kernel
theorem dX7_isHidden_9 : decode fX7_isHidden.2.1 9 = .ok (.iconst 1, 1) := by decide +kernel
theorem dX7_isHidden_10 : decode fX7_isHidden.2.1 10 = .ok (.iand, 1) := by decide +kernel
theorem dX7_isHidden_11 : decode fX7_isHidden.2.1 11 = .ok (.iconst 1, 1) := by decide +kernel
theorem dX7_isHidden_12 : decode fX7_isHidden.2.1 12 = .ok (.if_icmp .ne 7, 3) := by decide +kernel
theorem dX7_isHidden_15 : decode fX7_isHidden.2.1 15 = .ok (.iconst 1, 1) := by decide +kernel
theorem dX7_isHidden_16 : decode fX7_isHidden.2.1 16 = .ok (.goto 4, 3) := by decide +kernel
theorem dX7_isHidden_19 : decode fX7_isHidden.2.1 19 = .ok (.iconst 0, 1) := by decide +kernel
theorem dX7_isHidden_20 : decode fX7_isHidden.2.1 20 = .ok (.istore_n 3, 1) := by decide +kernel
theorem dX7_isHidden_21 : decode fX7_isHidden.2.1 21 = .ok (.iload_n 3, 1) := by decide +kernel
theorem dX7_isHidden_22 : decode fX7_isHidden.2.1 22 = .ok (.ifCond .eq 34, 3) := by decide +kernel
theorem dX7_isHidden_25 : decode fX7_isHidden.2.1 25 = .ok (.aload_n 0, 1) := by decide +kernel
theorem dX7_isHidden_26 : decode fX7_isHidden.2.1 26 = .ok (.iload_n 1, 1) := by decide +kernel
theorem dX7_isHidden_27 : decode fX7_isHidden.2.1 27 = .ok (.iconst 0, 1) := by decide +kernel
theorem dX7_isHidden_28 : decode fX7_isHidden.2.1 28 = .ok (.invokevirtual 86, 3) := by decide +kernel
theorem dX7_isHidden_31 : decode fX7_isHidden.2.1 31 = .ok (.iconst 4, 1) := by decide +kernel
theorem dX7_isHidden_32 : decode fX7_isHidden.2.1 32 = .ok (.if_icmp .eq 24, 3) := by decide +kernel
theorem dX7_isHidden_35 : decode fX7_isHidden.2.1 35 = .ok (.aload_n 0, 1) := by decide +kernel
theorem dX7_isHidden_36 : decode fX7_isHidden.2.1 36 = .ok (.iload_n 1, 1) := by decide +kernel
theorem dX7_isHidden_37 : decode fX7_isHidden.2.1 37 = .ok (.iconst 0, 1) := by decide +kernel
theorem dX7_isHidden_38 : decode fX7_isHidden.2.1 38 = .ok (.invokevirtual 86, 3) := by decide +kernel
theorem dX7_isHidden_41 : decode fX7_isHidden.2.1 41 = .ok (.iconst 2, 1) := by decide +kernel
theorem dX7_isHidden_42 : decode fX7_isHidden.2.1 42 = .ok (.if_icmp .ne 10, 3) := by decide +kernel
theorem dX7_isHidden_45 : decode fX7_isHidden.2.1 45 = .ok (.iload_n 2, 1) := by decide +kernel
theorem dX7_isHidden_46 : decode fX7_isHidden.2.1 46 = .ok (.iconst 2, 1) := by decide +kernel
theorem dX7_isHidden_47 : decode fX7_isHidden.2.1 47 = .ok (.irem, 1) := by decide +kernel
theorem dX7_isHidden_48 : decode fX7_isHidden.2.1 48 = .ok (.iconst 1, 1) := by decide +kernel
theorem dX7_isHidden_49 : decode fX7_isHidden.2.1 49 = .ok (.if_icmp .ne 7, 3) := by decide +kernel
theorem dX7_isHidden_52 : decode fX7_isHidden.2.1 52 = .ok (.iconst 1, 1) := by decide +kernel
theorem dX7_isHidden_53 : decode fX7_isHidden.2.1 53 = .ok (.goto 4, 3) := by decide +kernel
theorem dX7_isHidden_56 : decode fX7_isHidden.2.1 56 = .ok (.iconst 0, 1) := by decide +kernel
theorem dX7_isHidden_57 : decode fX7_isHidden.2.1 57 = .ok (.ireturn, 1) := by decide +kernel
set_option maxRecDepth 100000 in
set_option maxHeartbeats 4000000 in
theorem ok_X7_isHidden {X : Xb} {S : Sg} {mi : Mem} {o a : Nat} {b : Int32} (hM : MdA S o) (ha : a < 8) : OkI 1 fX7_isHidden X [rf X o, .int (nI a), .int b] S mi (b2i (mHidB (mi (o + 1) 9) (mi (o + 1) (26 + 5 * a)) b = true)) mi := by
  refine Ok.go [some (rf X o), some (.int (nI a)), some (.int b), none] (by decide) (by simp [Value.category]) (Nat.le_of_ble_eq_true rfl) rfl ?_
  obtain ⟨k_o, ⟨r_o_now, k_o_now⟩, ⟨r_o_image, k_o_image⟩, ⟨r_o_aside, k_o_aside⟩, ⟨r_o_seen, k_o_seen⟩, ⟨r_o_unlike, k_o_unlike⟩, ⟨r_o_tape, k_o_tape⟩, ⟨r_o_keys, k_o_keys⟩, ⟨r_o_keyAt, k_o_keyAt⟩, ⟨r_o_code, k_o_code⟩, ⟨r_o_waits, k_o_waits⟩, ⟨r_o_tested, k_o_tested⟩, ⟨r_o_stack, k_o_stack⟩, ⟨r_o_facts, k_o_facts⟩, ⟨r_o_sorts, k_o_sorts⟩, ⟨r_o_sizes, k_o_sizes⟩, ⟨r_o_cells, k_o_cells⟩, ⟨r_o_holds, k_o_holds⟩, ⟨r_o_holdsA, k_o_holdsA⟩, ⟨r_o_holdsB, k_o_holdsB⟩, ⟨r_o_heldCells, k_o_heldCells⟩, ⟨r_o_moved, k_o_moved⟩, ⟨r_o_tells, k_o_tells⟩⟩ := id hM
  refine mw_aload_n dX7_isHidden_0 rfl ?_
  refine mw_getr dX7_isHidden_1 fl_X7_9 rfl (by assumption) (by assumption) ?_
  refine mw_bipush (v := 9) dX7_isHidden_4 (by decide) ?_
  refine mw_ialdK (k := 9) dX7_isHidden_6 (by assumption) (rfl) (by decide) (by decide) ?_
  refine mw_iload_n dX7_isHidden_7 rfl ?_
  refine mw_ishr dX7_isHidden_8 ?_
  refine mw_iconst (v := 1) dX7_isHidden_9 (by decide) ?_
  refine mw_iand dX7_isHidden_10 ?_
  refine mw_iconst (v := 1) dX7_isHidden_11 (by decide) ?_
  refine mw_icmp_ne (tgt := 19) dX7_isHidden_12 (by decide) (fun h12 => ?_) (fun h12 => ?_)
  · skip
    refine mw_iconst (v := 0) dX7_isHidden_19 (by decide) ?_
    refine mw_istN 3 dX7_isHidden_20 rfl (by decide) ?_
    refine mw_iload_n dX7_isHidden_21 rfl ?_
    refine mw_if_eq (tgt := 56) dX7_isHidden_22 (by decide) (fun h22 => ?_) (fun h22 => ?_)
    · skip
      refine mw_iconst (v := 0) dX7_isHidden_56 (by decide) ?_
      exact mw_bret dX7_isHidden_57 rfl (by first | exact Or.inl rfl | exact Or.inr rfl | exact b2i_01) (by decide) (by decide) (⟨by simp_all [b2i, mHidB], rfl, rfl⟩)
    · skip
      refine mw_aload_n dX7_isHidden_25 rfl ?_
      refine mw_iload_n dX7_isHidden_26 rfl ?_
      refine mw_iconst (v := 0) dX7_isHidden_27 (by decide) ?_
      refine mw_cVI (g := fX7_of) dX7_isHidden_28 ml_X7_86 mfX7_of (ok_X7_of hM (a := a) (w := 0) ha (by decide)) (by assumption) rfl rfl (Nat.le_of_ble_eq_true rfl) ⟨by decide, by decide⟩ ⟨by decide, by decide⟩ ?_
      refine mw_iconst (v := 4) dX7_isHidden_31 (by decide) ?_
      refine mw_icmp_eq (tgt := 56) dX7_isHidden_32 (by decide) (fun h32 => ?_) (fun h32 => ?_)
      · skip
        refine mw_iconst (v := 0) dX7_isHidden_56 (by decide) ?_
        exact mw_bret dX7_isHidden_57 rfl (by first | exact Or.inl rfl | exact Or.inr rfl | exact b2i_01) (by decide) (by decide) (⟨by simp_all [b2i, mHidB], rfl, rfl⟩)
      · skip
        refine mw_aload_n dX7_isHidden_35 rfl ?_
        refine mw_iload_n dX7_isHidden_36 rfl ?_
        refine mw_iconst (v := 0) dX7_isHidden_37 (by decide) ?_
        refine mw_cVI (g := fX7_of) dX7_isHidden_38 ml_X7_86 mfX7_of (ok_X7_of hM (a := a) (w := 0) ha (by decide)) (by assumption) rfl rfl (Nat.le_of_ble_eq_true rfl) ⟨by decide, by decide⟩ ⟨by decide, by decide⟩ ?_
        refine mw_iconst (v := 2) dX7_isHidden_41 (by decide) ?_
        refine mw_icmp_ne (tgt := 52) dX7_isHidden_42 (by decide) (fun h42 => ?_) (fun h42 => ?_)
        · skip
          refine mw_iconst (v := 1) dX7_isHidden_52 (by decide) ?_
          refine mw_goto (tgt := 57) dX7_isHidden_53 (by decide) ?_
          exact mw_bret dX7_isHidden_57 rfl (by first | exact Or.inl rfl | exact Or.inr rfl | exact b2i_01) (by decide) (by decide) (⟨by simp_all [b2i, mHidB], rfl, rfl⟩)
        · skip
          refine mw_iload_n dX7_isHidden_45 rfl ?_
          refine mw_iconst (v := 2) dX7_isHidden_46 (by decide) ?_
          refine mw_irem dX7_isHidden_47 (by decide) ?_
          refine mw_iconst (v := 1) dX7_isHidden_48 (by decide) ?_
          refine mw_icmp_ne (tgt := 56) dX7_isHidden_49 (by decide) (fun h49 => ?_) (fun h49 => ?_)
          · skip
            refine mw_iconst (v := 0) dX7_isHidden_56 (by decide) ?_
            exact mw_bret dX7_isHidden_57 rfl (by first | exact Or.inl rfl | exact Or.inr rfl | exact b2i_01) (by decide) (by decide) (⟨by simp_all [b2i, mHidB], rfl, rfl⟩)
          · skip
            refine mw_iconst (v := 1) dX7_isHidden_52 (by decide) ?_
            refine mw_goto (tgt := 57) dX7_isHidden_53 (by decide) ?_
            exact mw_bret dX7_isHidden_57 rfl (by first | exact Or.inl rfl | exact Or.inr rfl | exact b2i_01) (by decide) (by decide) (⟨by simp_all [b2i, mHidB], rfl, rfl⟩)
  · skip
    refine mw_iconst (v := 1) dX7_isHidden_15 (by decide) ?_
    refine mw_goto (tgt := 20) dX7_isHidden_16 (by decide) ?_
    refine mw_istN 3 dX7_isHidden_20 rfl (by decide) ?_
    refine mw_iload_n dX7_isHidden_21 rfl ?_
    refine mw_if_eq (tgt := 56) dX7_isHidden_22 (by decide) (fun h22 => ?_) (fun h22 => ?_)
    · skip
      refine mw_iconst (v := 0) dX7_isHidden_56 (by decide) ?_
      exact mw_bret dX7_isHidden_57 rfl (by first | exact Or.inl rfl | exact Or.inr rfl | exact b2i_01) (by decide) (by decide) (⟨by simp_all [b2i, mHidB], rfl, rfl⟩)
    · skip
      refine mw_aload_n dX7_isHidden_25 rfl ?_
      refine mw_iload_n dX7_isHidden_26 rfl ?_
      refine mw_iconst (v := 0) dX7_isHidden_27 (by decide) ?_
      refine mw_cVI (g := fX7_of) dX7_isHidden_28 ml_X7_86 mfX7_of (ok_X7_of hM (a := a) (w := 0) ha (by decide)) (by assumption) rfl rfl (Nat.le_of_ble_eq_true rfl) ⟨by decide, by decide⟩ ⟨by decide, by decide⟩ ?_
      refine mw_iconst (v := 4) dX7_isHidden_31 (by decide) ?_
      refine mw_icmp_eq (tgt := 56) dX7_isHidden_32 (by decide) (fun h32 => ?_) (fun h32 => ?_)
      · skip
        refine mw_iconst (v := 0) dX7_isHidden_56 (by decide) ?_
        exact mw_bret dX7_isHidden_57 rfl (by first | exact Or.inl rfl | exact Or.inr rfl | exact b2i_01) (by decide) (by decide) (⟨by simp_all [b2i, mHidB], rfl, rfl⟩)
      · skip
        refine mw_aload_n dX7_isHidden_35 rfl ?_
        refine mw_iload_n dX7_isHidden_36 rfl ?_
        refine mw_iconst (v := 0) dX7_isHidden_37 (by decide) ?_
        refine mw_cVI (g := fX7_of) dX7_isHidden_38 ml_X7_86 mfX7_of (ok_X7_of hM (a := a) (w := 0) ha (by decide)) (by assumption) rfl rfl (Nat.le_of_ble_eq_true rfl) ⟨by decide, by decide⟩ ⟨by decide, by decide⟩ ?_
        refine mw_iconst (v := 2) dX7_isHidden_41 (by decide) ?_
        refine mw_icmp_ne (tgt := 52) dX7_isHidden_42 (by decide) (fun h42 => ?_) (fun h42 => ?_)
        · skip
          refine mw_iconst (v := 1) dX7_isHidden_52 (by decide) ?_
          refine mw_goto (tgt := 57) dX7_isHidden_53 (by decide) ?_
          exact mw_bret dX7_isHidden_57 rfl (by first | exact Or.inl rfl | exact Or.inr rfl | exact b2i_01) (by decide) (by decide) (⟨by simp_all [b2i, mHidB], rfl, rfl⟩)
        · skip
          refine mw_iload_n dX7_isHidden_45 rfl ?_
          refine mw_iconst (v := 2) dX7_isHidden_46 (by decide) ?_
          refine mw_irem dX7_isHidden_47 (by decide) ?_
          refine mw_iconst (v := 1) dX7_isHidden_48 (by decide) ?_
          refine mw_icmp_ne (tgt := 56) dX7_isHidden_49 (by decide) (fun h49 => ?_) (fun h49 => ?_)
          · skip
            refine mw_iconst (v := 0) dX7_isHidden_56 (by decide) ?_
            exact mw_bret dX7_isHidden_57 rfl (by first | exact Or.inl rfl | exact Or.inr rfl | exact b2i_01) (by decide) (by decide) (⟨by simp_all [b2i, mHidB], rfl, rfl⟩)
          · skip
            refine mw_iconst (v := 1) dX7_isHidden_52 (by decide) ?_
            refine mw_goto (tgt := 57) dX7_isHidden_53 (by decide) ?_
            exact mw_bret dX7_isHidden_57 rfl (by first | exact Or.inl rfl | exact Or.inr rfl | exact b2i_01) (by decide) (by decide) (⟨by simp_all [b2i, mHidB], rfl, rfl⟩)
def mSeeB (home : Nat → Int32) (hour chim kind faces width : Int32) (k : Nat) : Bool := decide (jr (jr (home k + hour) 24 - faces + 24) 24 < mWide hour kind width) && !(mHidB chim kind (jr (home k + hour) 24))
def mSees (home : Nat → Int32) (hour chim kind faces width : Int32) : Int32 := seesTo (mSeeB home hour chim kind faces width) 8
/-- what attic a of a row sees -/
abbrev rSees (A : Nat → Int32) (a : Nat) : Int32 := mSees (fun k => A (10 + k)) (A 2) (A 9) (A (26 + 5 * a)) (A (26 + 5 * a + 1)) (A (26 + 5 * a + 2))
theorem dX7_sees_0 : decode fX7_sees.2.1 0 = .ok (.iconst 0, 1) := by decide +kernel
theorem dX7_sees_1 : decode fX7_sees.2.1 1 = .ok (.istore_n 2, 1) := by decide +kernel
theorem dX7_sees_2 : decode fX7_sees.2.1 2 = .ok (.aload_n 0, 1) := by decide +kernel
theorem dX7_sees_3 : decode fX7_sees.2.1 3 = .ok (.iload_n 1, 1) := by decide +kernel
theorem dX7_sees_4 : decode fX7_sees.2.1 4 = .ok (.invokevirtual 93, 3) := by decide +kernel
theorem dX7_sees_7 : decode fX7_sees.2.1 7 = .ok (.istore_n 3, 1) := by decide +kernel
theorem dX7_sees_8 : decode fX7_sees.2.1 8 = .ok (.iconst 0, 1) := by decide +kernel
theorem dX7_sees_9 : decode fX7_sees.2.1 9 = .ok (.istore 4, 2) := by decide +kernel
theorem dX7_sees_11 : decode fX7_sees.2.1 11 = .ok (.iload 4, 2) := by decide +kernel
theorem dX7_sees_13 : decode fX7_sees.2.1 13 = .ok (.bipush 8, 2) := by decide +kernel
theorem dX7_sees_15 : decode fX7_sees.2.1 15 = .ok (.if_icmp .ge 61, 3) := by decide +kernel
theorem dX7_sees_18 : decode fX7_sees.2.1 18 = .ok (.aload_n 0, 1) := by decide +kernel
theorem dX7_sees_19 : decode fX7_sees.2.1 19 = .ok (.iload 4, 2) := by decide +kernel
theorem dX7_sees_21 : decode fX7_sees.2.1 21 = .ok (.invokevirtual 97, 3) := by decide +kernel
theorem dX7_sees_24 : decode fX7_sees.2.1 24 = .ok (.istore 5, 2) := by decide +kernel
theorem dX7_sees_26 : decode fX7_sees.2.1 26 = .ok (.iload 5, 2) := by decide +kernel
theorem dX7_sees_28 : decode fX7_sees.2.1 28 = .ok (.aload_n 0, 1) := by decide +kernel
theorem dX7_sees_29 : decode fX7_sees.2.1 29 = .ok (.iload_n 1, 1) := by decide +kernel
theorem dX7_sees_30 : decode fX7_sees.2.1 30 = .ok (.iconst 1, 1) := by decide +kernel
theorem dX7_sees_31 : decode fX7_sees.2.1 31 = .ok (.invokevirtual 86, 3) := by decide +kernel
theorem dX7_sees_34 : decode fX7_sees.2.1 34 = .ok (.isub, 1) := by decide +kernel
theorem dX7_sees_35 : decode fX7_sees.2.1 35 = .ok (.bipush 24, 2) := by decide +kernel
theorem dX7_sees_37 : decode fX7_sees.2.1 37 = .ok (.iadd, 1) := by decide +kernel
theorem dX7_sees_38 : decode fX7_sees.2.1 38 = .ok (.bipush 24, 2) := by decide +kernel
theorem dX7_sees_40 : decode fX7_sees.2.1 40 = .ok (.irem, 1) := by decide +kernel
theorem dX7_sees_41 : decode fX7_sees.2.1 41 = .ok (.istore 6, 2) := by decide +kernel
theorem dX7_sees_43 : decode fX7_sees.2.1 43 = .ok (.iload_n 2, 1) := by decide +kernel
theorem dX7_sees_44 : decode fX7_sees.2.1 44 = .ok (.iload 6, 2) := by decide +kernel
theorem dX7_sees_46 : decode fX7_sees.2.1 46 = .ok (.iload_n 3, 1) := by decide +kernel
theorem dX7_sees_47 : decode fX7_sees.2.1 47 = .ok (.if_icmp .ge 20, 3) := by decide +kernel
theorem dX7_sees_50 : decode fX7_sees.2.1 50 = .ok (.aload_n 0, 1) := by decide +kernel
theorem dX7_sees_51 : decode fX7_sees.2.1 51 = .ok (.iload_n 1, 1) := by decide +kernel
theorem dX7_sees_52 : decode fX7_sees.2.1 52 = .ok (.iload 5, 2) := by decide +kernel
theorem dX7_sees_54 : decode fX7_sees.2.1 54 = .ok (.invokevirtual 100, 3) := by decide +kernel
theorem dX7_sees_57 : decode fX7_sees.2.1 57 = .ok (.ifCond .ne 10, 3) := by decide +kernel
theorem dX7_sees_60 : decode fX7_sees.2.1 60 = .ok (.iconst 1, 1) := by decide +kernel
theorem dX7_sees_61 : decode fX7_sees.2.1 61 = .ok (.iload 4, 2) := by decide +kernel
theorem dX7_sees_63 : decode fX7_sees.2.1 63 = .ok (.ishl, 1) := by decide +kernel
theorem dX7_sees_64 : decode fX7_sees.2.1 64 = .ok (.goto 4, 3) := by decide +kernel
theorem dX7_sees_67 : decode fX7_sees.2.1 67 = .ok (.iconst 0, 1) := by decide +kernel
theorem dX7_sees_68 : decode fX7_sees.2.1 68 = .ok (.ior, 1) := by decide +kernel
theorem dX7_sees_69 : decode fX7_sees.2.1 69 = .ok (.istore_n 2, 1) := by decide +kernel
theorem dX7_sees_70 : decode fX7_sees.2.1 70 = .ok (.iinc 4 1, 3) := by decide +kernel
theorem dX7_sees_73 : decode fX7_sees.2.1 73 = .ok (.goto (-62), 3) := by decide +kernel
theorem dX7_sees_76 : decode fX7_sees.2.1 76 = .ok (.iload_n 2, 1) := by decide +kernel
theorem dX7_sees_77 : decode fX7_sees.2.1 77 = .ok (.ireturn, 1) := by decide +kernel
set_option maxRecDepth 100000 in
set_option maxHeartbeats 4000000 in
theorem ok_X7_sees {X : Xb} {S : Sg} {mi : Mem} {o a : Nat} (hM : MdA S o) (ha : a < 8) : OkI 3 fX7_sees X [rf X o, .int (nI a)] S mi (rSees (mi (o + 1)) a) mi := by
  refine Ok.go [some (rf X o), some (.int (nI a)), none, none, none, none, none] (by decide) (by simp [Value.category]) (Nat.le_of_ble_eq_true rfl) rfl ?_
  obtain ⟨k_o, ⟨r_o_now, k_o_now⟩, ⟨r_o_image, k_o_image⟩, ⟨r_o_aside, k_o_aside⟩, ⟨r_o_seen, k_o_seen⟩, ⟨r_o_unlike, k_o_unlike⟩, ⟨r_o_tape, k_o_tape⟩, ⟨r_o_keys, k_o_keys⟩, ⟨r_o_keyAt, k_o_keyAt⟩, ⟨r_o_code, k_o_code⟩, ⟨r_o_waits, k_o_waits⟩, ⟨r_o_tested, k_o_tested⟩, ⟨r_o_stack, k_o_stack⟩, ⟨r_o_facts, k_o_facts⟩, ⟨r_o_sorts, k_o_sorts⟩, ⟨r_o_sizes, k_o_sizes⟩, ⟨r_o_cells, k_o_cells⟩, ⟨r_o_holds, k_o_holds⟩, ⟨r_o_holdsA, k_o_holdsA⟩, ⟨r_o_holdsB, k_o_holdsB⟩, ⟨r_o_heldCells, k_o_heldCells⟩, ⟨r_o_moved, k_o_moved⟩, ⟨r_o_tells, k_o_tells⟩⟩ := id hM
  have lp := mw_dn (P := fun k => MW X fX7_sees (rmOf 3 0 0) 0 0 11 [some (rf X o), some (.int (nI a)), some (.int (seesTo (mSeeB (fun k => mi (o + 1) (10 + k)) (mi (o + 1) 2) (mi (o + 1) 9) (mi (o + 1) (26 + 5 * a)) (mi (o + 1) (26 + 5 * a + 1)) (mi (o + 1) (26 + 5 * a + 2))) k)), some (.int (mWide (mi (o + 1) 2) (mi (o + 1) (26 + 5 * a)) (mi (o + 1) (26 + 5 * a + 2)))), some (.int (nI k)), none, none] [] S mi (mQ X 0 0 (pI (rSees (mi (o + 1)) a) S mi))) 8 (by
    refine mw_iload dX7_sees_11 rfl ?_
    refine mw_bipush (v := 8) dX7_sees_13 (by decide) ?_
    refine mw_icmp_ge (tgt := 76) dX7_sees_15 (by decide) (fun h15 => ?_) (fun h15 => ?_)
    · skip
      refine mw_iload_n dX7_sees_76 rfl ?_
      exact mw_iret dX7_sees_77 rfl (by decide) (by decide) (⟨rfl, rfl, rfl⟩)
    · skip
      exact absurd (by decide) h15) (fun k hk ih => by
    refine mw_iload dX7_sees_11 rfl ?_
    refine mw_bipush (v := 8) dX7_sees_13 (by decide) ?_
    refine mw_icmp_ge (tgt := 76) dX7_sees_15 (by decide) (fun h15 => ?_) (fun h15 => ?_)
    · skip
      exact absurd h15 (nI_ge (b := 8) (by omega) (by decide))
    · skip
      refine mw_aload_n dX7_sees_18 rfl ?_
      refine mw_iload dX7_sees_19 rfl ?_
      refine mw_cVI (g := fX7_standsAt) dX7_sees_21 ml_X7_97 mfX7_standsAt (ok_X7_standsAt hM (k := k) (by omega)) (by assumption) rfl rfl (Nat.le_of_ble_eq_true rfl) ⟨by decide, by decide⟩ ⟨by decide, by decide⟩ ?_
      refine mw_istore dX7_sees_24 (by decide) ?_
      refine mw_iload dX7_sees_26 rfl ?_
      refine mw_aload_n dX7_sees_28 rfl ?_
      refine mw_iload_n dX7_sees_29 rfl ?_
      refine mw_iconst (v := 1) dX7_sees_30 (by decide) ?_
      refine mw_cVI (g := fX7_of) dX7_sees_31 ml_X7_86 mfX7_of (ok_X7_of hM (a := a) (w := 1) ha (by decide)) (by assumption) rfl rfl (Nat.le_of_ble_eq_true rfl) ⟨by decide, by decide⟩ ⟨by decide, by decide⟩ ?_
      refine mw_isub dX7_sees_34 ?_
      refine mw_bipush (v := 24) dX7_sees_35 (by decide) ?_
      refine mw_iadd dX7_sees_37 ?_
      refine mw_bipush (v := 24) dX7_sees_38 (by decide) ?_
      refine mw_irem dX7_sees_40 (by decide) ?_
      refine mw_istore dX7_sees_41 (by decide) ?_
      refine mw_iload_n dX7_sees_43 rfl ?_
      refine mw_iload dX7_sees_44 rfl ?_
      refine mw_iload_n dX7_sees_46 rfl ?_
      refine mw_icmp_ge (tgt := 67) dX7_sees_47 (by decide) (fun h47 => ?_) (fun h47 => ?_)
      · skip
        refine mw_iconst (v := 0) dX7_sees_67 (by decide) ?_
        refine mw_ior dX7_sees_68 ?_
        refine mw_istN 2 dX7_sees_69 rfl (by decide) ?_
        refine mw_iincK (k := k) dX7_sees_70 rfl rfl (by decide) ?_
        refine mw_goto (tgt := 11) dX7_sees_73 (by decide) ?_
        refine MW.back ih ?_
        simp [lsub, seesTo, mSeeB]
        grind
      · skip
        refine mw_aload_n dX7_sees_50 rfl ?_
        refine mw_iload_n dX7_sees_51 rfl ?_
        refine mw_iload dX7_sees_52 rfl ?_
        refine mw_cVI (g := fX7_isHidden) dX7_sees_54 ml_X7_100 mfX7_isHidden (ok_X7_isHidden hM ha) (by assumption) rfl rfl (Nat.le_of_ble_eq_true rfl) ⟨by decide, by decide⟩ ⟨by decide, by decide⟩ ?_
        refine mw_if_neB (tgt := 67) dX7_sees_57 (by decide) (fun h57 => ?_) (fun h57 => ?_)
        · skip
          refine mw_iconst (v := 0) dX7_sees_67 (by decide) ?_
          refine mw_ior dX7_sees_68 ?_
          refine mw_istN 2 dX7_sees_69 rfl (by decide) ?_
          refine mw_iincK (k := k) dX7_sees_70 rfl rfl (by decide) ?_
          refine mw_goto (tgt := 11) dX7_sees_73 (by decide) ?_
          refine MW.back ih ?_
          simp [lsub, seesTo, mSeeB]
          grind
        · skip
          refine mw_iconst (v := 1) dX7_sees_60 (by decide) ?_
          refine mw_iload dX7_sees_61 rfl ?_
          refine mw_ishl dX7_sees_63 ?_
          refine mw_goto (tgt := 68) dX7_sees_64 (by decide) ?_
          refine mw_ior dX7_sees_68 ?_
          refine mw_istN 2 dX7_sees_69 rfl (by decide) ?_
          refine mw_iincK (k := k) dX7_sees_70 rfl rfl (by decide) ?_
          refine mw_goto (tgt := 11) dX7_sees_73 (by decide) ?_
          refine MW.back ih ?_
          simp [lsub, seesTo, mSeeB]
          grind)
  refine mw_iconst (v := 0) dX7_sees_0 (by decide) ?_
  refine mw_istN 2 dX7_sees_1 rfl (by decide) ?_
  refine mw_aload_n dX7_sees_2 rfl ?_
  refine mw_iload_n dX7_sees_3 rfl ?_
  refine mw_cVI (g := fX7_wideOf) dX7_sees_4 ml_X7_93 mfX7_wideOf (ok_X7_wideOf hM ha) (by assumption) rfl rfl (Nat.le_of_ble_eq_true rfl) ⟨by decide, by decide⟩ ⟨by decide, by decide⟩ ?_
  refine mw_istN 3 dX7_sees_7 rfl (by decide) ?_
  refine mw_iconst (v := 0) dX7_sees_8 (by decide) ?_
  refine mw_istore dX7_sees_9 (by decide) ?_
  exact MW.back lp (by simp [lsub, seesTo, nI_0])
