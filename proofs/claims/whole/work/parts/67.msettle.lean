/-! the model: ranks, signs, what waits -/
def nmM (key c : Int32) : Int32 := if key = 0 then (if c = 112 then 0 else if c = 110 then 1 else if c = 104 then 2 else if c = 119 then 3 else -1) else if key = 1 then (if c = 116 then 0 else if c = 111 then 1 else -1) else (if c = 99 then 0 else if c = 111 then 1 else -1)
theorem dX7_nameOf_0 : decode fX7_nameOf.2.1 0 = .ok (.aload_n 0, 1) := by decide +kernel
theorem dX7_nameOf_1 : decode fX7_nameOf.2.1 1 = .ok (.getfield 219, 3) := by decide +kernel
theorem dX7_nameOf_4 : decode fX7_nameOf.2.1 4 = .ok (.lookupswitch 92 #[(0, 28), (1, 70)], 28) := by decide +kernel
theorem dX7_nameOf_32 : decode fX7_nameOf.2.1 32 = .ok (.iload_n 1, 1) := by decide +kernel
theorem dX7_nameOf_33 : decode fX7_nameOf.2.1 33 = .ok (.bipush 112, 2) := by decide +kernel
theorem dX7_nameOf_35 : decode fX7_nameOf.2.1 35 = .ok (.if_icmp .ne 7, 3) := by decide +kernel
theorem dX7_nameOf_38 : decode fX7_nameOf.2.1 38 = .ok (.iconst 0, 1) := by decide +kernel
theorem dX7_nameOf_39 : decode fX7_nameOf.2.1 39 = .ok (.goto 34, 3) := by decide +kernel
theorem dX7_nameOf_42 : decode fX7_nameOf.2.1 42 = .ok (.iload_n 1, 1) := by decide +kernel
theorem dX7_nameOf_43 : decode fX7_nameOf.2.1 43 = .ok (.bipush 110, 2) := by decide +kernel
theorem dX7_nameOf_45 : decode fX7_nameOf.2.1 45 = .ok (.if_icmp .ne 7, 3) := by decide +kernel
theorem dX7_nameOf_48 : decode fX7_nameOf.2.1 48 = .ok (.iconst 1, 1) := by decide +kernel
theorem dX7_nameOf_49 : decode fX7_nameOf.2.1 49 = .ok (.goto 24, 3) := by decide +kernel
theorem dX7_nameOf_52 : decode fX7_nameOf.2.1 52 = .ok (.iload_n 1, 1) := by decide +kernel
theorem dX7_nameOf_53 : decode fX7_nameOf.2.1 53 = .ok (.bipush 104, 2) := by decide +kernel
theorem dX7_nameOf_55 : decode fX7_nameOf.2.1 55 = .ok (.if_icmp .ne 7, 3) := by decide +kernel
theorem dX7_nameOf_58 : decode fX7_nameOf.2.1 58 = .ok (.iconst 2, 1) := by decide +kernel
theorem dX7_nameOf_59 : decode fX7_nameOf.2.1 59 = .ok (.goto 14, 3) := by decide +kernel
theorem dX7_nameOf_62 : decode fX7_nameOf.2.1 62 = .ok (.iload_n 1, 1) := by decide +kernel
theorem dX7_nameOf_63 : decode fX7_nameOf.2.1 63 = .ok (.bipush 119, 2) := by decide +kernel
theorem dX7_nameOf_65 : decode fX7_nameOf.2.1 65 = .ok (.if_icmp .ne 7, 3) := by decide +kernel
theorem dX7_nameOf_68 : decode fX7_nameOf.2.1 68 = .ok (.iconst 3, 1) := by decide +kernel
theorem dX7_nameOf_69 : decode fX7_nameOf.2.1 69 = .ok (.goto 4, 3) := by decide +kernel
theorem dX7_nameOf_72 : decode fX7_nameOf.2.1 72 = .ok (.iconst (-1), 1) := by decide +kernel
theorem dX7_nameOf_73 : decode fX7_nameOf.2.1 73 = .ok (.ireturn, 1) := by decide +kernel
theorem dX7_nameOf_74 : decode fX7_nameOf.2.1 74 = .ok (.iload_n 1, 1) := by decide +kernel
theorem dX7_nameOf_75 : decode fX7_nameOf.2.1 75 = .ok (.bipush 116, 2) := by decide +kernel
theorem dX7_nameOf_77 : decode fX7_nameOf.2.1 77 = .ok (.if_icmp .ne 7, 3) := by decide +kernel
theorem dX7_nameOf_80 : decode fX7_nameOf.2.1 80 = .ok (.iconst 0, 1) := by decide +kernel
theorem dX7_nameOf_81 : decode fX7_nameOf.2.1 81 = .ok (.goto 14, 3) := by decide +kernel
theorem dX7_nameOf_84 : decode fX7_nameOf.2.1 84 = .ok (.iload_n 1, 1) := by decide +kernel
theorem dX7_nameOf_85 : decode fX7_nameOf.2.1 85 = .ok (.bipush 111, 2) := by decide +kernel
theorem dX7_nameOf_87 : decode fX7_nameOf.2.1 87 = .ok (.if_icmp .ne 7, 3) := by decide +kernel
theorem dX7_nameOf_90 : decode fX7_nameOf.2.1 90 = .ok (.iconst 1, 1) := by decide +kernel
theorem dX7_nameOf_91 : decode fX7_nameOf.2.1 91 = .ok (.goto 4, 3) := by decide +kernel
theorem dX7_nameOf_94 : decode fX7_nameOf.2.1 94 = .ok (.iconst (-1), 1) := by decide +kernel
theorem dX7_nameOf_95 : decode fX7_nameOf.2.1 95 = .ok (.ireturn, 1) := by decide +kernel
theorem dX7_nameOf_96 : decode fX7_nameOf.2.1 96 = .ok (.iload_n 1, 1) := by decide +kernel
theorem dX7_nameOf_97 : decode fX7_nameOf.2.1 97 = .ok (.bipush 99, 2) := by decide +kernel
theorem dX7_nameOf_99 : decode fX7_nameOf.2.1 99 = .ok (.if_icmp .ne 7, 3) := by decide +kernel
theorem dX7_nameOf_102 : decode fX7_nameOf.2.1 102 = .ok (.iconst 0, 1) := by decide +kernel
theorem dX7_nameOf_103 : decode fX7_nameOf.2.1 103 = .ok (.goto 14, 3) := by decide +kernel
theorem dX7_nameOf_106 : decode fX7_nameOf.2.1 106 = .ok (.iload_n 1, 1) := by decide +kernel
theorem dX7_nameOf_107 : decode fX7_nameOf.2.1 107 = .ok (.bipush 111, 2) := by decide +kernel
theorem dX7_nameOf_109 : decode fX7_nameOf.2.1 109 = .ok (.if_icmp .ne 7, 3) := by decide +kernel
theorem dX7_nameOf_112 : decode fX7_nameOf.2.1 112 = .ok (.iconst 1, 1) := by decide +kernel
theorem dX7_nameOf_113 : decode fX7_nameOf.2.1 113 = .ok (.goto 4, 3) := by decide +kernel
theorem dX7_nameOf_116 : decode fX7_nameOf.2.1 116 = .ok (.iconst (-1), 1) := by decide +kernel
theorem dX7_nameOf_117 : decode fX7_nameOf.2.1 117 = .ok (.ireturn, 1) := by decide +kernel
set_option maxRecDepth 100000 in
set_option maxHeartbeats 4000000 in
theorem ok_X7_nameOf {X : Xb} {S : Sg} {mi : Mem} {o : Nat} {c : Int32} (hM : MdA S o) : OkI 0 fX7_nameOf X [rf X o, .int c] S mi (nmM (mi o 13) c) mi := by
  refine Ok.go [some (rf X o), some (.int c)] (by decide) (by simp [Value.category]) (Nat.le_of_ble_eq_true rfl) rfl ?_
  obtain ⟨k_o, ⟨r_o_now, k_o_now⟩, ⟨r_o_image, k_o_image⟩, ⟨r_o_aside, k_o_aside⟩, ⟨r_o_seen, k_o_seen⟩, ⟨r_o_unlike, k_o_unlike⟩, ⟨r_o_tape, k_o_tape⟩, ⟨r_o_keys, k_o_keys⟩, ⟨r_o_keyAt, k_o_keyAt⟩, ⟨r_o_code, k_o_code⟩, ⟨r_o_waits, k_o_waits⟩, ⟨r_o_tested, k_o_tested⟩, ⟨r_o_stack, k_o_stack⟩, ⟨r_o_facts, k_o_facts⟩, ⟨r_o_sorts, k_o_sorts⟩, ⟨r_o_sizes, k_o_sizes⟩, ⟨r_o_cells, k_o_cells⟩, ⟨r_o_holds, k_o_holds⟩, ⟨r_o_holdsA, k_o_holdsA⟩, ⟨r_o_holdsB, k_o_holdsB⟩, ⟨r_o_heldCells, k_o_heldCells⟩, ⟨r_o_moved, k_o_moved⟩, ⟨r_o_tells, k_o_tells⟩⟩ := id hM
  refine mw_aload_n dX7_nameOf_0 rfl ?_
  refine mw_geti dX7_nameOf_1 fl_X7_219 rfl (by assumption) ?_
  refine mw_ls1 dX7_nameOf_4 (by decide) 0 32 (by decide) (fun h4_0 => ?_) (fun h4_0 => ?_)
  · skip
    refine mw_iload_n dX7_nameOf_32 rfl ?_
    refine mw_bipush (v := 112) dX7_nameOf_33 (by decide) ?_
    refine mw_icmp_ne (tgt := 42) dX7_nameOf_35 (by decide) (fun h35 => ?_) (fun h35 => ?_)
    · skip
      refine mw_iload_n dX7_nameOf_42 rfl ?_
      refine mw_bipush (v := 110) dX7_nameOf_43 (by decide) ?_
      refine mw_icmp_ne (tgt := 52) dX7_nameOf_45 (by decide) (fun h45 => ?_) (fun h45 => ?_)
      · skip
        refine mw_iload_n dX7_nameOf_52 rfl ?_
        refine mw_bipush (v := 104) dX7_nameOf_53 (by decide) ?_
        refine mw_icmp_ne (tgt := 62) dX7_nameOf_55 (by decide) (fun h55 => ?_) (fun h55 => ?_)
        · skip
          refine mw_iload_n dX7_nameOf_62 rfl ?_
          refine mw_bipush (v := 119) dX7_nameOf_63 (by decide) ?_
          refine mw_icmp_ne (tgt := 72) dX7_nameOf_65 (by decide) (fun h65 => ?_) (fun h65 => ?_)
          · skip
            refine mw_iconst (v := (-1)) dX7_nameOf_72 (by decide) ?_
            exact mw_iret dX7_nameOf_73 rfl (by decide) (by decide) (⟨by simp only [nmM]; simp_all, rfl, rfl⟩)
          · skip
            refine mw_iconst (v := 3) dX7_nameOf_68 (by decide) ?_
            refine mw_goto (tgt := 73) dX7_nameOf_69 (by decide) ?_
            exact mw_iret dX7_nameOf_73 rfl (by decide) (by decide) (⟨by simp only [nmM]; simp_all, rfl, rfl⟩)
        · skip
          refine mw_iconst (v := 2) dX7_nameOf_58 (by decide) ?_
          refine mw_goto (tgt := 73) dX7_nameOf_59 (by decide) ?_
          exact mw_iret dX7_nameOf_73 rfl (by decide) (by decide) (⟨by simp only [nmM]; simp_all, rfl, rfl⟩)
      · skip
        refine mw_iconst (v := 1) dX7_nameOf_48 (by decide) ?_
        refine mw_goto (tgt := 73) dX7_nameOf_49 (by decide) ?_
        exact mw_iret dX7_nameOf_73 rfl (by decide) (by decide) (⟨by simp only [nmM]; simp_all, rfl, rfl⟩)
    · skip
      refine mw_iconst (v := 0) dX7_nameOf_38 (by decide) ?_
      refine mw_goto (tgt := 73) dX7_nameOf_39 (by decide) ?_
      exact mw_iret dX7_nameOf_73 rfl (by decide) (by decide) (⟨by simp only [nmM]; simp_all, rfl, rfl⟩)
  refine mw_ls1 dX7_nameOf_4 (by decide) 1 74 (by decide) (fun h4_1 => ?_) (fun h4_1 => ?_)
  · skip
    refine mw_iload_n dX7_nameOf_74 rfl ?_
    refine mw_bipush (v := 116) dX7_nameOf_75 (by decide) ?_
    refine mw_icmp_ne (tgt := 84) dX7_nameOf_77 (by decide) (fun h77 => ?_) (fun h77 => ?_)
    · skip
      refine mw_iload_n dX7_nameOf_84 rfl ?_
      refine mw_bipush (v := 111) dX7_nameOf_85 (by decide) ?_
      refine mw_icmp_ne (tgt := 94) dX7_nameOf_87 (by decide) (fun h87 => ?_) (fun h87 => ?_)
      · skip
        refine mw_iconst (v := (-1)) dX7_nameOf_94 (by decide) ?_
        exact mw_iret dX7_nameOf_95 rfl (by decide) (by decide) (⟨by simp only [nmM]; simp_all, rfl, rfl⟩)
      · skip
        refine mw_iconst (v := 1) dX7_nameOf_90 (by decide) ?_
        refine mw_goto (tgt := 95) dX7_nameOf_91 (by decide) ?_
        exact mw_iret dX7_nameOf_95 rfl (by decide) (by decide) (⟨by simp only [nmM]; simp_all, rfl, rfl⟩)
    · skip
      refine mw_iconst (v := 0) dX7_nameOf_80 (by decide) ?_
      refine mw_goto (tgt := 95) dX7_nameOf_81 (by decide) ?_
      exact mw_iret dX7_nameOf_95 rfl (by decide) (by decide) (⟨by simp only [nmM]; simp_all, rfl, rfl⟩)
  refine mw_ls0 dX7_nameOf_4 (by decide) 96 (by decide) (by have e0 := ne_toI (n := 0) (by decide) h4_0; have e1 := ne_toI (n := 1) (by decide) h4_1; simp; omega) ?_
  refine mw_iload_n dX7_nameOf_96 rfl ?_
  refine mw_bipush (v := 99) dX7_nameOf_97 (by decide) ?_
  refine mw_icmp_ne (tgt := 106) dX7_nameOf_99 (by decide) (fun h99 => ?_) (fun h99 => ?_)
  · skip
    refine mw_iload_n dX7_nameOf_106 rfl ?_
    refine mw_bipush (v := 111) dX7_nameOf_107 (by decide) ?_
    refine mw_icmp_ne (tgt := 116) dX7_nameOf_109 (by decide) (fun h109 => ?_) (fun h109 => ?_)
    · skip
      refine mw_iconst (v := (-1)) dX7_nameOf_116 (by decide) ?_
      exact mw_iret dX7_nameOf_117 rfl (by decide) (by decide) (⟨by simp only [nmM]; simp_all, rfl, rfl⟩)
    · skip
      refine mw_iconst (v := 1) dX7_nameOf_112 (by decide) ?_
      refine mw_goto (tgt := 117) dX7_nameOf_113 (by decide) ?_
      exact mw_iret dX7_nameOf_117 rfl (by decide) (by decide) (⟨by simp only [nmM]; simp_all, rfl, rfl⟩)
  · skip
    refine mw_iconst (v := 0) dX7_nameOf_102 (by decide) ?_
    refine mw_goto (tgt := 117) dX7_nameOf_103 (by decide) ?_
    exact mw_iret dX7_nameOf_117 rfl (by decide) (by decide) (⟨by simp only [nmM]; simp_all, rfl, rfl⟩)
def rkM (s : Int32) : Int32 := if s = -1 then 1 else if s = -2 then 2 else if -5 ≤ s then 3 else if -7 ≤ s then 4 else if -9 ≤ s then 5 else 6
theorem dX7_rank_0 : decode fX7_rank.2.1 0 = .ok (.iload_n 0, 1) := by decide +kernel
theorem dX7_rank_1 : decode fX7_rank.2.1 1 = .ok (.iconst (-1), 1) := by decide +kernel
theorem dX7_rank_2 : decode fX7_rank.2.1 2 = .ok (.if_icmp .ne 7, 3) := by decide +kernel
theorem dX7_rank_5 : decode fX7_rank.2.1 5 = .ok (.iconst 1, 1) := by decide +kernel
theorem dX7_rank_6 : decode fX7_rank.2.1 6 = .ok (.goto 45, 3) := by decide +kernel
theorem dX7_rank_9 : decode fX7_rank.2.1 9 = .ok (.iload_n 0, 1) := by decide +kernel
theorem dX7_rank_10 : decode fX7_rank.2.1 10 = .ok (.bipush (-2), 2) := by decide +kernel
theorem dX7_rank_12 : decode fX7_rank.2.1 12 = .ok (.if_icmp .ne 7, 3) := by decide +kernel
theorem dX7_rank_15 : decode fX7_rank.2.1 15 = .ok (.iconst 2, 1) := by decide +kernel
theorem dX7_rank_16 : decode fX7_rank.2.1 16 = .ok (.goto 35, 3) := by decide +kernel
theorem dX7_rank_19 : decode fX7_rank.2.1 19 = .ok (.iload_n 0, 1) := by decide +kernel
theorem dX7_rank_20 : decode fX7_rank.2.1 20 = .ok (.bipush (-5), 2) := by decide +kernel
theorem dX7_rank_22 : decode fX7_rank.2.1 22 = .ok (.if_icmp .lt 7, 3) := by decide +kernel
theorem dX7_rank_25 : decode fX7_rank.2.1 25 = .ok (.iconst 3, 1) := by decide +kernel
theorem dX7_rank_26 : decode fX7_rank.2.1 26 = .ok (.goto 25, 3) := by decide +kernel
theorem dX7_rank_29 : decode fX7_rank.2.1 29 = .ok (.iload_n 0, 1) := by decide +kernel
theorem dX7_rank_30 : decode fX7_rank.2.1 30 = .ok (.bipush (-7), 2) := by decide +kernel
theorem dX7_rank_32 : decode fX7_rank.2.1 32 = .ok (.if_icmp .lt 7, 3) := by decide +kernel
theorem dX7_rank_35 : decode fX7_rank.2.1 35 = .ok (.iconst 4, 1) := by decide +kernel
theorem dX7_rank_36 : decode fX7_rank.2.1 36 = .ok (.goto 15, 3) := by decide +kernel
theorem dX7_rank_39 : decode fX7_rank.2.1 39 = .ok (.iload_n 0, 1) := by decide +kernel
theorem dX7_rank_40 : decode fX7_rank.2.1 40 = .ok (.bipush (-9), 2) := by decide +kernel
theorem dX7_rank_42 : decode fX7_rank.2.1 42 = .ok (.if_icmp .lt 7, 3) := by decide +kernel
theorem dX7_rank_45 : decode fX7_rank.2.1 45 = .ok (.iconst 5, 1) := by decide +kernel
theorem dX7_rank_46 : decode fX7_rank.2.1 46 = .ok (.goto 5, 3) := by decide +kernel
theorem dX7_rank_49 : decode fX7_rank.2.1 49 = .ok (.bipush 6, 2) := by decide +kernel
theorem dX7_rank_51 : decode fX7_rank.2.1 51 = .ok (.ireturn, 1) := by decide +kernel
set_option maxRecDepth 100000 in
set_option maxHeartbeats 4000000 in
theorem ok_X7_rank {X : Xb} {S : Sg} {mi : Mem} {s : Int32} : OkI 0 fX7_rank X [.int s] S mi (rkM s) mi := by
  refine Ok.go [some (.int s)] (by decide) (by simp [Value.category]) (Nat.le_of_ble_eq_true rfl) rfl ?_
  refine mw_iload_n dX7_rank_0 rfl ?_
  refine mw_iconst (v := (-1)) dX7_rank_1 (by decide) ?_
  refine mw_icmp_ne (tgt := 9) dX7_rank_2 (by decide) (fun h2 => ?_) (fun h2 => ?_)
  · skip
    refine mw_iload_n dX7_rank_9 rfl ?_
    refine mw_bipush (v := (-2)) dX7_rank_10 (by decide) ?_
    refine mw_icmp_ne (tgt := 19) dX7_rank_12 (by decide) (fun h12 => ?_) (fun h12 => ?_)
    · skip
      refine mw_iload_n dX7_rank_19 rfl ?_
      refine mw_bipush (v := (-5)) dX7_rank_20 (by decide) ?_
      refine mw_icmp_lt (tgt := 29) dX7_rank_22 (by decide) (fun h22 => ?_) (fun h22 => ?_)
      · skip
        refine mw_iload_n dX7_rank_29 rfl ?_
        refine mw_bipush (v := (-7)) dX7_rank_30 (by decide) ?_
        refine mw_icmp_lt (tgt := 39) dX7_rank_32 (by decide) (fun h32 => ?_) (fun h32 => ?_)
        · skip
          refine mw_iload_n dX7_rank_39 rfl ?_
          refine mw_bipush (v := (-9)) dX7_rank_40 (by decide) ?_
          refine mw_icmp_lt (tgt := 49) dX7_rank_42 (by decide) (fun h42 => ?_) (fun h42 => ?_)
          · skip
            refine mw_bipush (v := 6) dX7_rank_49 (by decide) ?_
            exact mw_iret dX7_rank_51 rfl (by decide) (by decide) (⟨by first | (rw [rkM, if_pos h2]; done) | (rw [rkM, if_neg h2, if_pos h12]; done) | (rw [rkM, if_neg h2, if_neg h12, if_pos (Int32.not_lt.mp h22)]; done) | (rw [rkM, if_neg h2, if_neg h12, if_neg (Int32.not_le.mpr h22), if_pos (Int32.not_lt.mp h32)]; done) | (rw [rkM, if_neg h2, if_neg h12, if_neg (Int32.not_le.mpr h22), if_neg (Int32.not_le.mpr h32), if_pos (Int32.not_lt.mp h42)]; done) | (rw [rkM, if_neg h2, if_neg h12, if_neg (Int32.not_le.mpr h22), if_neg (Int32.not_le.mpr h32), if_neg (Int32.not_le.mpr h42)]; done), rfl, rfl⟩)
          · skip
            refine mw_iconst (v := 5) dX7_rank_45 (by decide) ?_
            refine mw_goto (tgt := 51) dX7_rank_46 (by decide) ?_
            exact mw_iret dX7_rank_51 rfl (by decide) (by decide) (⟨by first | (rw [rkM, if_pos h2]; done) | (rw [rkM, if_neg h2, if_pos h12]; done) | (rw [rkM, if_neg h2, if_neg h12, if_pos (Int32.not_lt.mp h22)]; done) | (rw [rkM, if_neg h2, if_neg h12, if_neg (Int32.not_le.mpr h22), if_pos (Int32.not_lt.mp h32)]; done) | (rw [rkM, if_neg h2, if_neg h12, if_neg (Int32.not_le.mpr h22), if_neg (Int32.not_le.mpr h32), if_pos (Int32.not_lt.mp h42)]; done) | (rw [rkM, if_neg h2, if_neg h12, if_neg (Int32.not_le.mpr h22), if_neg (Int32.not_le.mpr h32), if_neg (Int32.not_le.mpr h42)]; done), rfl, rfl⟩)
        · skip
          refine mw_iconst (v := 4) dX7_rank_35 (by decide) ?_
          refine mw_goto (tgt := 51) dX7_rank_36 (by decide) ?_
          exact mw_iret dX7_rank_51 rfl (by decide) (by decide) (⟨by first | (rw [rkM, if_pos h2]; done) | (rw [rkM, if_neg h2, if_pos h12]; done) | (rw [rkM, if_neg h2, if_neg h12, if_pos (Int32.not_lt.mp h22)]; done) | (rw [rkM, if_neg h2, if_neg h12, if_neg (Int32.not_le.mpr h22), if_pos (Int32.not_lt.mp h32)]; done) | (rw [rkM, if_neg h2, if_neg h12, if_neg (Int32.not_le.mpr h22), if_neg (Int32.not_le.mpr h32), if_pos (Int32.not_lt.mp h42)]; done) | (rw [rkM, if_neg h2, if_neg h12, if_neg (Int32.not_le.mpr h22), if_neg (Int32.not_le.mpr h32), if_neg (Int32.not_le.mpr h42)]; done), rfl, rfl⟩)
      · skip
        refine mw_iconst (v := 3) dX7_rank_25 (by decide) ?_
        refine mw_goto (tgt := 51) dX7_rank_26 (by decide) ?_
        exact mw_iret dX7_rank_51 rfl (by decide) (by decide) (⟨by first | (rw [rkM, if_pos h2]; done) | (rw [rkM, if_neg h2, if_pos h12]; done) | (rw [rkM, if_neg h2, if_neg h12, if_pos (Int32.not_lt.mp h22)]; done) | (rw [rkM, if_neg h2, if_neg h12, if_neg (Int32.not_le.mpr h22), if_pos (Int32.not_lt.mp h32)]; done) | (rw [rkM, if_neg h2, if_neg h12, if_neg (Int32.not_le.mpr h22), if_neg (Int32.not_le.mpr h32), if_pos (Int32.not_lt.mp h42)]; done) | (rw [rkM, if_neg h2, if_neg h12, if_neg (Int32.not_le.mpr h22), if_neg (Int32.not_le.mpr h32), if_neg (Int32.not_le.mpr h42)]; done), rfl, rfl⟩)
    · skip
      refine mw_iconst (v := 2) dX7_rank_15 (by decide) ?_
      refine mw_goto (tgt := 51) dX7_rank_16 (by decide) ?_
      exact mw_iret dX7_rank_51 rfl (by decide) (by decide) (⟨by first | (rw [rkM, if_pos h2]; done) | (rw [rkM, if_neg h2, if_pos h12]; done) | (rw [rkM, if_neg h2, if_neg h12, if_pos (Int32.not_lt.mp h22)]; done) | (rw [rkM, if_neg h2, if_neg h12, if_neg (Int32.not_le.mpr h22), if_pos (Int32.not_lt.mp h32)]; done) | (rw [rkM, if_neg h2, if_neg h12, if_neg (Int32.not_le.mpr h22), if_neg (Int32.not_le.mpr h32), if_pos (Int32.not_lt.mp h42)]; done) | (rw [rkM, if_neg h2, if_neg h12, if_neg (Int32.not_le.mpr h22), if_neg (Int32.not_le.mpr h32), if_neg (Int32.not_le.mpr h42)]; done), rfl, rfl⟩)
  · skip
    refine mw_iconst (v := 1) dX7_rank_5 (by decide) ?_
    refine mw_goto (tgt := 51) dX7_rank_6 (by decide) ?_
    exact mw_iret dX7_rank_51 rfl (by decide) (by decide) (⟨by first | (rw [rkM, if_pos h2]; done) | (rw [rkM, if_neg h2, if_pos h12]; done) | (rw [rkM, if_neg h2, if_neg h12, if_pos (Int32.not_lt.mp h22)]; done) | (rw [rkM, if_neg h2, if_neg h12, if_neg (Int32.not_le.mpr h22), if_pos (Int32.not_lt.mp h32)]; done) | (rw [rkM, if_neg h2, if_neg h12, if_neg (Int32.not_le.mpr h22), if_neg (Int32.not_le.mpr h32), if_pos (Int32.not_lt.mp h42)]; done) | (rw [rkM, if_neg h2, if_neg h12, if_neg (Int32.not_le.mpr h22), if_neg (Int32.not_le.mpr h32), if_neg (Int32.not_le.mpr h42)]; done), rfl, rfl⟩)
def sgM (tk vl : Int32) : Int32 := if tk = 3 then (if vl = 38 then -2 else if vl = 42 then -8 else if vl = 43 then -6 else if vl = 45 then -7 else if vl = 47 then -9 else if vl = 60 then -3 else if vl = 61 then -4 else if vl = 62 then -5 else if vl = 124 then -1 else 0) else 0
theorem dX7_signHere_0 : decode fX7_signHere.2.1 0 = .ok (.aload_n 0, 1) := by decide +kernel
theorem dX7_signHere_1 : decode fX7_signHere.2.1 1 = .ok (.getfield 207, 3) := by decide +kernel
theorem dX7_signHere_4 : decode fX7_signHere.2.1 4 = .ok (.iconst 3, 1) := by decide +kernel
theorem dX7_signHere_5 : decode fX7_signHere.2.1 5 = .ok (.if_icmp .eq 5, 3) := by decide +kernel
theorem dX7_signHere_8 : decode fX7_signHere.2.1 8 = .ok (.iconst 0, 1) := by decide +kernel
theorem dX7_signHere_9 : decode fX7_signHere.2.1 9 = .ok (.ireturn, 1) := by decide +kernel
theorem dX7_signHere_10 : decode fX7_signHere.2.1 10 = .ok (.aload_n 0, 1) := by decide +kernel
theorem dX7_signHere_11 : decode fX7_signHere.2.1 11 = .ok (.getfield 213, 3) := by decide +kernel
theorem dX7_signHere_14 : decode fX7_signHere.2.1 14 = .ok (.lookupswitch 108 #[(38, 84), (42, 102), (43, 96), (45, 99), (47, 105), (60, 87), (61, 90), (62, 93), (124, 82)], 82) := by decide +kernel
theorem dX7_signHere_96 : decode fX7_signHere.2.1 96 = .ok (.iconst (-1), 1) := by decide +kernel
theorem dX7_signHere_97 : decode fX7_signHere.2.1 97 = .ok (.ireturn, 1) := by decide +kernel
theorem dX7_signHere_98 : decode fX7_signHere.2.1 98 = .ok (.bipush (-2), 2) := by decide +kernel
theorem dX7_signHere_100 : decode fX7_signHere.2.1 100 = .ok (.ireturn, 1) := by decide +kernel
theorem dX7_signHere_101 : decode fX7_signHere.2.1 101 = .ok (.bipush (-3), 2) := by decide +kernel
theorem dX7_signHere_103 : decode fX7_signHere.2.1 103 = .ok (.ireturn, 1) := by decide +kernel
theorem dX7_signHere_104 : decode fX7_signHere.2.1 104 = .ok (.bipush (-4), 2) := by decide +kernel
theorem dX7_signHere_106 : decode fX7_signHere.2.1 106 = .ok (.ireturn, 1) := by decide +kernel
theorem dX7_signHere_107 : decode fX7_signHere.2.1 107 = .ok (.bipush (-5), 2) := by decide +kernel
theorem dX7_signHere_109 : decode fX7_signHere.2.1 109 = .ok (.ireturn, 1) := by decide +kernel
theorem dX7_signHere_110 : decode fX7_signHere.2.1 110 = .ok (.bipush (-6), 2) := by decide +kernel
theorem dX7_signHere_112 : decode fX7_signHere.2.1 112 = .ok (.ireturn, 1) := by decide +kernel
theorem dX7_signHere_113 : decode fX7_signHere.2.1 113 = .ok (.bipush (-7), 2) := by decide +kernel
theorem dX7_signHere_115 : decode fX7_signHere.2.1 115 = .ok (.ireturn, 1) := by decide +kernel
theorem dX7_signHere_116 : decode fX7_signHere.2.1 116 = .ok (.bipush (-8), 2) := by decide +kernel
theorem dX7_signHere_118 : decode fX7_signHere.2.1 118 = .ok (.ireturn, 1) := by decide +kernel
theorem dX7_signHere_119 : decode fX7_signHere.2.1 119 = .ok (.bipush (-9), 2) := by decide +kernel
theorem dX7_signHere_121 : decode fX7_signHere.2.1 121 = .ok (.ireturn, 1) := by decide +kernel
theorem dX7_signHere_122 : decode fX7_signHere.2.1 122 = .ok (.iconst 0, 1) := by decide +kernel
theorem dX7_signHere_123 : decode fX7_signHere.2.1 123 = .ok (.ireturn, 1) := by decide +kernel
set_option maxRecDepth 100000 in
set_option maxHeartbeats 4000000 in
theorem ok_X7_signHere {X : Xb} {S : Sg} {mi : Mem} {o : Nat} (hM : MdA S o) : OkI 0 fX7_signHere X [rf X o] S mi (sgM (mi o 10) (mi o 11)) mi := by
  refine Ok.go [some (rf X o)] (by decide) (by simp [Value.category]) (Nat.le_of_ble_eq_true rfl) rfl ?_
  obtain ⟨k_o, ⟨r_o_now, k_o_now⟩, ⟨r_o_image, k_o_image⟩, ⟨r_o_aside, k_o_aside⟩, ⟨r_o_seen, k_o_seen⟩, ⟨r_o_unlike, k_o_unlike⟩, ⟨r_o_tape, k_o_tape⟩, ⟨r_o_keys, k_o_keys⟩, ⟨r_o_keyAt, k_o_keyAt⟩, ⟨r_o_code, k_o_code⟩, ⟨r_o_waits, k_o_waits⟩, ⟨r_o_tested, k_o_tested⟩, ⟨r_o_stack, k_o_stack⟩, ⟨r_o_facts, k_o_facts⟩, ⟨r_o_sorts, k_o_sorts⟩, ⟨r_o_sizes, k_o_sizes⟩, ⟨r_o_cells, k_o_cells⟩, ⟨r_o_holds, k_o_holds⟩, ⟨r_o_holdsA, k_o_holdsA⟩, ⟨r_o_holdsB, k_o_holdsB⟩, ⟨r_o_heldCells, k_o_heldCells⟩, ⟨r_o_moved, k_o_moved⟩, ⟨r_o_tells, k_o_tells⟩⟩ := id hM
  refine mw_aload_n dX7_signHere_0 rfl ?_
  refine mw_geti dX7_signHere_1 fl_X7_207 rfl (by assumption) ?_
  refine mw_iconst (v := 3) dX7_signHere_4 (by decide) ?_
  refine mw_icmp_eq (tgt := 10) dX7_signHere_5 (by decide) (fun h5 => ?_) (fun h5 => ?_)
  · skip
    refine mw_aload_n dX7_signHere_10 rfl ?_
    refine mw_geti dX7_signHere_11 fl_X7_213 rfl (by assumption) ?_
    refine mw_ls1 dX7_signHere_14 (by decide) 38 98 (by decide) (fun h14_38 => ?_) (fun h14_38 => ?_)
    · skip
      refine mw_bipush (v := (-2)) dX7_signHere_98 (by decide) ?_
      exact mw_iret dX7_signHere_100 rfl (by decide) (by decide) (⟨by simp only [sgM]; simp_all, rfl, rfl⟩)
    refine mw_ls1 dX7_signHere_14 (by decide) 42 116 (by decide) (fun h14_42 => ?_) (fun h14_42 => ?_)
    · skip
      refine mw_bipush (v := (-8)) dX7_signHere_116 (by decide) ?_
      exact mw_iret dX7_signHere_118 rfl (by decide) (by decide) (⟨by simp only [sgM]; simp_all, rfl, rfl⟩)
    refine mw_ls1 dX7_signHere_14 (by decide) 43 110 (by decide) (fun h14_43 => ?_) (fun h14_43 => ?_)
    · skip
      refine mw_bipush (v := (-6)) dX7_signHere_110 (by decide) ?_
      exact mw_iret dX7_signHere_112 rfl (by decide) (by decide) (⟨by simp only [sgM]; simp_all, rfl, rfl⟩)
    refine mw_ls1 dX7_signHere_14 (by decide) 45 113 (by decide) (fun h14_45 => ?_) (fun h14_45 => ?_)
    · skip
      refine mw_bipush (v := (-7)) dX7_signHere_113 (by decide) ?_
      exact mw_iret dX7_signHere_115 rfl (by decide) (by decide) (⟨by simp only [sgM]; simp_all, rfl, rfl⟩)
    refine mw_ls1 dX7_signHere_14 (by decide) 47 119 (by decide) (fun h14_47 => ?_) (fun h14_47 => ?_)
    · skip
      refine mw_bipush (v := (-9)) dX7_signHere_119 (by decide) ?_
      exact mw_iret dX7_signHere_121 rfl (by decide) (by decide) (⟨by simp only [sgM]; simp_all, rfl, rfl⟩)
    refine mw_ls1 dX7_signHere_14 (by decide) 60 101 (by decide) (fun h14_60 => ?_) (fun h14_60 => ?_)
    · skip
      refine mw_bipush (v := (-3)) dX7_signHere_101 (by decide) ?_
      exact mw_iret dX7_signHere_103 rfl (by decide) (by decide) (⟨by simp only [sgM]; simp_all, rfl, rfl⟩)
    refine mw_ls1 dX7_signHere_14 (by decide) 61 104 (by decide) (fun h14_61 => ?_) (fun h14_61 => ?_)
    · skip
      refine mw_bipush (v := (-4)) dX7_signHere_104 (by decide) ?_
      exact mw_iret dX7_signHere_106 rfl (by decide) (by decide) (⟨by simp only [sgM]; simp_all, rfl, rfl⟩)
    refine mw_ls1 dX7_signHere_14 (by decide) 62 107 (by decide) (fun h14_62 => ?_) (fun h14_62 => ?_)
    · skip
      refine mw_bipush (v := (-5)) dX7_signHere_107 (by decide) ?_
      exact mw_iret dX7_signHere_109 rfl (by decide) (by decide) (⟨by simp only [sgM]; simp_all, rfl, rfl⟩)
    refine mw_ls1 dX7_signHere_14 (by decide) 124 96 (by decide) (fun h14_124 => ?_) (fun h14_124 => ?_)
    · skip
      refine mw_iconst (v := (-1)) dX7_signHere_96 (by decide) ?_
      exact mw_iret dX7_signHere_97 rfl (by decide) (by decide) (⟨by simp only [sgM]; simp_all, rfl, rfl⟩)
    refine mw_ls0 dX7_signHere_14 (by decide) 122 (by decide) (by have e0 := ne_toI (n := 38) (by decide) h14_38; have e1 := ne_toI (n := 42) (by decide) h14_42; have e2 := ne_toI (n := 43) (by decide) h14_43; have e3 := ne_toI (n := 45) (by decide) h14_45; have e4 := ne_toI (n := 47) (by decide) h14_47; have e5 := ne_toI (n := 60) (by decide) h14_60; have e6 := ne_toI (n := 61) (by decide) h14_61; have e7 := ne_toI (n := 62) (by decide) h14_62; have e8 := ne_toI (n := 124) (by decide) h14_124; simp; omega) ?_
    refine mw_iconst (v := 0) dX7_signHere_122 (by decide) ?_
    exact mw_iret dX7_signHere_123 rfl (by decide) (by decide) (⟨by simp only [sgM]; simp_all, rfl, rfl⟩)
  · skip
    refine mw_iconst (v := 0) dX7_signHere_8 (by decide) ?_
    exact mw_iret dX7_signHere_9 rfl (by decide) (by decide) (⟨by simp only [sgM]; simp_all, rfl, rfl⟩)
/-- what waits: the top first -/
def StkR (row : Nat → Int32) (W : List Int32) : Prop := ∀ j, j < W.length → row (W.length - 1 - j) = W.getD j 0
def CodR (row : Nat → Int32) (C : List Int32) : Prop := ∀ j, j < C.length → row j = C.getD j 0
theorem StkR.pop {row : Nat → Int32} {w : Int32} {W : List Int32} (h : StkR row (w :: W)) : StkR row W := by
  intro j hj
  have := h (j + 1) (by simp; omega)
  rw [show (w :: W).length - 1 - (j + 1) = W.length - 1 - j by simp; omega] at this
  rw [this]; rfl
theorem StkR.top {row : Nat → Int32} {w : Int32} {W : List Int32} (h : StkR row (w :: W)) : row W.length = w := by
  have := h 0 (by simp)
  simpa using this
theorem StkR.push {row : Nat → Int32} {w : Int32} {W : List Int32} (h : StkR row W) : StkR (upd row W.length w) (w :: W) := by
  intro j hj
  cases j with
  | zero => simp [upd]
  | succ j =>
    have hj' : j < W.length := by simpa using hj
    have e : (w :: W).length - 1 - (j + 1) = W.length - 1 - j := by simp; omega
    rw [e, upd_ne (by omega), h j hj']; rfl
theorem CodR.push {row : Nat → Int32} {v : Int32} {C : List Int32} (h : CodR row C) : CodR (upd row C.length v) (C ++ [v]) := by
  intro j hj
  by_cases c : j = C.length
  · subst c; simp [upd]
  · have hj' : j < C.length := by simp at hj; omega
    rw [upd_ne c, h j hj', List.getD_eq_getElem?_getD, List.getD_eq_getElem?_getD, List.getElem?_append_left hj']
def cntN : List Int32 → Nat
  | [] => 0
  | w :: W => (if w = -10 then 1 else 0) + cntN W
def setF (least : Int32) : List Int32 → List Int32 → List Int32 × List Int32
  | C, [] => (C, [])
  | C, w :: W => if w = -11 ∨ rkM w < least then (C, w :: W) else setF least (C ++ [w]) W
theorem setF_len (least : Int32) : ∀ C W, (setF least C W).1.length + (setF least C W).2.length = C.length + W.length
  | C, [] => rfl
  | C, w :: W => by
    simp only [setF]
    split
    · rfl
    · rw [setF_len least (C ++ [w]) W]; simp; omega
/-- the code so far, the parts counted, what waits -/
def McS (m : Mem) (o : Nat) (C : List Int32) (at' : Nat) (W : List Int32) : Prop := m o 17 = nI C.length ∧ m o 18 = nI at' ∧ m o 20 = nI W.length ∧ CodR (m (o + 9)) C ∧ StkR (m (o + 10)) W
def FrS (o : Nat) (mi m : Mem) : Prop := (∀ a, a ≠ o → a ≠ o + 9 → a ≠ o + 10 → m a = mi a) ∧ ∀ j, j ≠ 17 → j ≠ 20 → m o j = mi o j
theorem FrS.rf (o : Nat) (mi : Mem) : FrS o mi mi := ⟨fun _ _ _ _ => rfl, fun _ _ _ => rfl⟩
theorem FrS.tr {o : Nat} {a b c : Mem} (h : FrS o a b) (k : FrS o b c) : FrS o a c := ⟨fun i h1 h2 h3 => (k.1 i h1 h2 h3).trans (h.1 i h1 h2 h3), fun j h1 h2 => (k.2 j h1 h2).trans (h.2 j h1 h2)⟩
theorem dX7_settle_0 : decode fX7_settle.2.1 0 = .ok (.aload_n 0, 1) := by decide +kernel
theorem dX7_settle_1 : decode fX7_settle.2.1 1 = .ok (.getfield 225, 3) := by decide +kernel
theorem dX7_settle_4 : decode fX7_settle.2.1 4 = .ok (.ifCond .le 78, 3) := by decide +kernel
theorem dX7_settle_7 : decode fX7_settle.2.1 7 = .ok (.aload_n 0, 1) := by decide +kernel
theorem dX7_settle_8 : decode fX7_settle.2.1 8 = .ok (.getfield 38, 3) := by decide +kernel
theorem dX7_settle_11 : decode fX7_settle.2.1 11 = .ok (.aload_n 0, 1) := by decide +kernel
theorem dX7_settle_12 : decode fX7_settle.2.1 12 = .ok (.getfield 225, 3) := by decide +kernel
theorem dX7_settle_15 : decode fX7_settle.2.1 15 = .ok (.iconst 1, 1) := by decide +kernel
theorem dX7_settle_16 : decode fX7_settle.2.1 16 = .ok (.isub, 1) := by decide +kernel
theorem dX7_settle_17 : decode fX7_settle.2.1 17 = .ok (.iaload, 1) := by decide +kernel
theorem dX7_settle_18 : decode fX7_settle.2.1 18 = .ok (.bipush (-11), 2) := by decide +kernel
theorem dX7_settle_20 : decode fX7_settle.2.1 20 = .ok (.if_icmp .eq 62, 3) := by decide +kernel
theorem dX7_settle_23 : decode fX7_settle.2.1 23 = .ok (.aload_n 0, 1) := by decide +kernel
theorem dX7_settle_24 : decode fX7_settle.2.1 24 = .ok (.getfield 38, 3) := by decide +kernel
theorem dX7_settle_27 : decode fX7_settle.2.1 27 = .ok (.aload_n 0, 1) := by decide +kernel
theorem dX7_settle_28 : decode fX7_settle.2.1 28 = .ok (.getfield 225, 3) := by decide +kernel
theorem dX7_settle_31 : decode fX7_settle.2.1 31 = .ok (.iconst 1, 1) := by decide +kernel
theorem dX7_settle_32 : decode fX7_settle.2.1 32 = .ok (.isub, 1) := by decide +kernel
theorem dX7_settle_33 : decode fX7_settle.2.1 33 = .ok (.iaload, 1) := by decide +kernel
theorem dX7_settle_34 : decode fX7_settle.2.1 34 = .ok (.invokestatic 228, 3) := by decide +kernel
theorem dX7_settle_37 : decode fX7_settle.2.1 37 = .ok (.iload_n 1, 1) := by decide +kernel
theorem dX7_settle_38 : decode fX7_settle.2.1 38 = .ok (.if_icmp .lt 44, 3) := by decide +kernel
theorem dX7_settle_41 : decode fX7_settle.2.1 41 = .ok (.aload_n 0, 1) := by decide +kernel
theorem dX7_settle_42 : decode fX7_settle.2.1 42 = .ok (.dup, 1) := by decide +kernel
theorem dX7_settle_43 : decode fX7_settle.2.1 43 = .ok (.getfield 225, 3) := by decide +kernel
theorem dX7_settle_46 : decode fX7_settle.2.1 46 = .ok (.iconst 1, 1) := by decide +kernel
theorem dX7_settle_47 : decode fX7_settle.2.1 47 = .ok (.isub, 1) := by decide +kernel
theorem dX7_settle_48 : decode fX7_settle.2.1 48 = .ok (.putfield 225, 3) := by decide +kernel
theorem dX7_settle_51 : decode fX7_settle.2.1 51 = .ok (.aload_n 0, 1) := by decide +kernel
theorem dX7_settle_52 : decode fX7_settle.2.1 52 = .ok (.getfield 35, 3) := by decide +kernel
theorem dX7_settle_55 : decode fX7_settle.2.1 55 = .ok (.aload_n 0, 1) := by decide +kernel
theorem dX7_settle_56 : decode fX7_settle.2.1 56 = .ok (.getfield 231, 3) := by decide +kernel
theorem dX7_settle_59 : decode fX7_settle.2.1 59 = .ok (.aload_n 0, 1) := by decide +kernel
theorem dX7_settle_60 : decode fX7_settle.2.1 60 = .ok (.getfield 38, 3) := by decide +kernel
theorem dX7_settle_63 : decode fX7_settle.2.1 63 = .ok (.aload_n 0, 1) := by decide +kernel
theorem dX7_settle_64 : decode fX7_settle.2.1 64 = .ok (.getfield 225, 3) := by decide +kernel
theorem dX7_settle_67 : decode fX7_settle.2.1 67 = .ok (.iaload, 1) := by decide +kernel
theorem dX7_settle_68 : decode fX7_settle.2.1 68 = .ok (.iastore, 1) := by decide +kernel
theorem dX7_settle_69 : decode fX7_settle.2.1 69 = .ok (.aload_n 0, 1) := by decide +kernel
theorem dX7_settle_70 : decode fX7_settle.2.1 70 = .ok (.dup, 1) := by decide +kernel
theorem dX7_settle_71 : decode fX7_settle.2.1 71 = .ok (.getfield 231, 3) := by decide +kernel
theorem dX7_settle_74 : decode fX7_settle.2.1 74 = .ok (.iconst 1, 1) := by decide +kernel
theorem dX7_settle_75 : decode fX7_settle.2.1 75 = .ok (.iadd, 1) := by decide +kernel
theorem dX7_settle_76 : decode fX7_settle.2.1 76 = .ok (.putfield 231, 3) := by decide +kernel
theorem dX7_settle_79 : decode fX7_settle.2.1 79 = .ok (.goto (-79), 3) := by decide +kernel
theorem dX7_settle_82 : decode fX7_settle.2.1 82 = .ok (.return_, 1) := by decide +kernel
set_option maxRecDepth 100000 in
set_option maxHeartbeats 4000000 in
theorem ok_X7_settle {X : Xb} {S : Sg} {mi : Mem} {o at' : Nat} {C W : List Int32} {least : Int32} (hM : MdA S o) (hC : McS mi o C at' W) (h96 : C.length + W.length ≤ 96) : Ok 1 0 0 fX7_settle X [rf X o, .int least] S mi (fun r S' m => r = none ∧ S' = S ∧ McS m o (setF least C W).1 at' (setF least C W).2 ∧ FrS o mi m) := by
  refine Ok.go [some (rf X o), some (.int least)] (by decide) (by simp [Value.category]) (Nat.le_of_ble_eq_true rfl) rfl ?_
  obtain ⟨k_o, ⟨r_o_now, k_o_now⟩, ⟨r_o_image, k_o_image⟩, ⟨r_o_aside, k_o_aside⟩, ⟨r_o_seen, k_o_seen⟩, ⟨r_o_unlike, k_o_unlike⟩, ⟨r_o_tape, k_o_tape⟩, ⟨r_o_keys, k_o_keys⟩, ⟨r_o_keyAt, k_o_keyAt⟩, ⟨r_o_code, k_o_code⟩, ⟨r_o_waits, k_o_waits⟩, ⟨r_o_tested, k_o_tested⟩, ⟨r_o_stack, k_o_stack⟩, ⟨r_o_facts, k_o_facts⟩, ⟨r_o_sorts, k_o_sorts⟩, ⟨r_o_sizes, k_o_sizes⟩, ⟨r_o_cells, k_o_cells⟩, ⟨r_o_holds, k_o_holds⟩, ⟨r_o_holdsA, k_o_holdsA⟩, ⟨r_o_holdsB, k_o_holdsB⟩, ⟨r_o_heldCells, k_o_heldCells⟩, ⟨r_o_moved, k_o_moved⟩, ⟨r_o_tells, k_o_tells⟩⟩ := id hM
  have lp : ∀ W1 C1 m, C1.length + W1.length ≤ 96 → setF least C1 W1 = setF least C W → McS m o C1 at' W1 → FrS o mi m → MW X fX7_settle (rmOf 1 0 0) 0 0 0 [some (rf X o), some (.int least)] [] S m (mQ X 0 0 (fun r S' m => r = none ∧ S' = S ∧ McS m o (setF least C W).1 at' (setF least C W).2 ∧ FrS o mi m)) := by
    intro W1
    induction W1 with
    | nil =>
      intro C1 m hl hR hm hF
      have e20 : m o 20 = nI 0 := hm.2.2.1
      refine mw_aload_n dX7_settle_0 rfl ?_
      refine mw_geti dX7_settle_1 fl_X7_225 rfl (by assumption) ?_
      rw [e20]
      refine mw_if_le (tgt := 82) dX7_settle_4 (by decide) (fun h4 => ?_) (fun h4 => ?_)
      · skip
        exact mw_vret dX7_settle_82 rfl (by decide) (by decide) (⟨rfl, rfl, by rw [← hR]; exact hm, hF⟩)
      · skip
        exact absurd (by decide) h4
    | cons w W1 ih =>
      intro C1 m hl hR hm hF
      have hl' : C1.length + (W1.length + 1) ≤ 96 := hl
      have e20 : m o 20 = nI (W1.length + 1) := hm.2.2.1
      have e17 : m o 17 = nI C1.length := hm.1
      have et : m (o + 10) W1.length = w := hm.2.2.2.2.top
      have p1 : nI (W1.length + 1) - 1 = nI W1.length := nI_pred _
      simp only [setF] at hR
      have e20b : m_up m o 20 (nI W1.length) o 20 = nI W1.length := m_up_at _ _ _ _
      have e17b : m_up m o 20 (nI W1.length) o 17 = nI C1.length := by rw [m_up_of (by decide)]; exact e17
      have etb : m_up m o 20 (nI W1.length) (o + 10) W1.length = w := by rw [m_up_ne (by omega)]; exact et
      have e17c : m_up (m_up m o 20 (nI W1.length)) (o + 9) C1.length w o 17 = nI C1.length := by rw [m_up_ne (by omega)]; exact e17b
      refine mw_aload_n dX7_settle_0 rfl ?_
      refine mw_geti dX7_settle_1 fl_X7_225 rfl (by assumption) ?_
      rw [e20]
      refine mw_if_le (tgt := 82) dX7_settle_4 (by decide) (fun h4 => ?_) (fun h4 => ?_)
      · skip
        exact mw_vret dX7_settle_82 rfl (by decide) (by decide) (by first | (have g : w = -11 := h20; exact ⟨rfl, rfl, by rw [if_pos (Or.inl g)] at hR; rw [← hR]; exact hm, hF⟩) | (have g : rkM w < least := h38; exact ⟨rfl, rfl, by rw [if_pos (Or.inr g)] at hR; rw [← hR]; exact hm, hF⟩) | exact absurd h4 (Int32.not_le.mpr (nI_lt (a := 0) (by omega) (by omega))) | fail "leaf")
      · skip
        refine mw_aload_n dX7_settle_7 rfl ?_
        refine mw_getr dX7_settle_8 fl_X7_38 rfl (by assumption) (by assumption) ?_
        refine mw_aload_n dX7_settle_11 rfl ?_
        refine mw_geti dX7_settle_12 fl_X7_225 rfl (by assumption) ?_
        rw [e20]
        refine mw_iconst (v := 1) dX7_settle_15 (by decide) ?_
        refine mw_isub dX7_settle_16 ?_
        rw [p1]
        refine mw_ialdK (k := W1.length) dX7_settle_17 (by assumption) (rfl) (by omega) (by decide) ?_
        rw [et]
        refine mw_bipush (v := (-11)) dX7_settle_18 (by decide) ?_
        refine mw_icmp_eq (tgt := 82) dX7_settle_20 (by decide) (fun h20 => ?_) (fun h20 => ?_)
        · skip
          exact mw_vret dX7_settle_82 rfl (by decide) (by decide) (by first | (have g : w = -11 := h20; exact ⟨rfl, rfl, by rw [if_pos (Or.inl g)] at hR; rw [← hR]; exact hm, hF⟩) | (have g : rkM w < least := h38; exact ⟨rfl, rfl, by rw [if_pos (Or.inr g)] at hR; rw [← hR]; exact hm, hF⟩) | exact absurd h4 (Int32.not_le.mpr (nI_lt (a := 0) (by omega) (by omega))) | fail "leaf")
        · skip
          refine mw_aload_n dX7_settle_23 rfl ?_
          refine mw_getr dX7_settle_24 fl_X7_38 rfl (by assumption) (by assumption) ?_
          refine mw_aload_n dX7_settle_27 rfl ?_
          refine mw_geti dX7_settle_28 fl_X7_225 rfl (by assumption) ?_
          rw [e20]
          refine mw_iconst (v := 1) dX7_settle_31 (by decide) ?_
          refine mw_isub dX7_settle_32 ?_
          rw [p1]
          refine mw_ialdK (k := W1.length) dX7_settle_33 (by assumption) (rfl) (by omega) (by decide) ?_
          rw [et]
          refine mw_cSI (g := fX7_rank) dX7_settle_34 ml_X7_228 mfX7_rank (ok_X7_rank) rfl rfl (Nat.le_of_ble_eq_true rfl) ⟨by decide, by decide⟩ ⟨by decide, by decide⟩ ?_
          refine mw_iload_n dX7_settle_37 rfl ?_
          refine mw_icmp_lt (tgt := 82) dX7_settle_38 (by decide) (fun h38 => ?_) (fun h38 => ?_)
          · skip
            exact mw_vret dX7_settle_82 rfl (by decide) (by decide) (by first | (have g : w = -11 := h20; exact ⟨rfl, rfl, by rw [if_pos (Or.inl g)] at hR; rw [← hR]; exact hm, hF⟩) | (have g : rkM w < least := h38; exact ⟨rfl, rfl, by rw [if_pos (Or.inr g)] at hR; rw [← hR]; exact hm, hF⟩) | exact absurd h4 (Int32.not_le.mpr (nI_lt (a := 0) (by omega) (by omega))) | fail "leaf")
          · skip
            refine mw_aload_n dX7_settle_41 rfl ?_
            refine mw_dup dX7_settle_42 rfl ?_
            refine mw_geti dX7_settle_43 fl_X7_225 rfl (by assumption) ?_
            rw [e20]
            refine mw_iconst (v := 1) dX7_settle_46 (by decide) ?_
            refine mw_isub dX7_settle_47 ?_
            rw [p1]
            refine mw_puti dX7_settle_48 fl_X7_225 ft_7_20 rfl (rfl) rfl (by assumption) ?_
            refine mw_aload_n dX7_settle_51 rfl ?_
            refine mw_getr dX7_settle_52 fl_X7_35 rfl (by assumption) (by assumption) ?_
            refine mw_aload_n dX7_settle_55 rfl ?_
            refine mw_geti dX7_settle_56 fl_X7_231 rfl (by assumption) ?_
            rw [e17b]
            refine mw_aload_n dX7_settle_59 rfl ?_
            refine mw_getr dX7_settle_60 fl_X7_38 rfl (by assumption) (by assumption) ?_
            refine mw_aload_n dX7_settle_63 rfl ?_
            refine mw_geti dX7_settle_64 fl_X7_225 rfl (by assumption) ?_
            rw [e20b]
            refine mw_ialdK (k := W1.length) dX7_settle_67 (by assumption) (rfl) (by omega) (by decide) ?_
            rw [etb]
            refine mw_iastK (k := C1.length) dX7_settle_68 (by assumption) (rfl) (by omega) (by decide) ?_
            refine mw_aload_n dX7_settle_69 rfl ?_
            refine mw_dup dX7_settle_70 rfl ?_
            refine mw_geti dX7_settle_71 fl_X7_231 rfl (by assumption) ?_
            rw [e17c]
            refine mw_iconst (v := 1) dX7_settle_74 (by decide) ?_
            refine mw_iadd dX7_settle_75 ?_
            rw [nI_1]
            refine mw_puti dX7_settle_76 fl_X7_231 ft_7_17 rfl (rfl) rfl (by assumption) ?_
            refine mw_goto (tgt := 0) dX7_settle_79 (by decide) ?_
            rw [if_neg (fun g => g.elim h20 h38)] at hR
            refine ih (C1 ++ [w]) _ (by simp; omega) hR ⟨by rw [m_up_at]; simp, by rw [m_up_of (by decide), m_up_ne (by omega), m_up_of (by decide)]; exact hm.2.1, by rw [m_up_of (by decide), m_up_ne (by omega), m_up_at], ?_, ?_⟩ ⟨fun a h1 h2 h3 => by rw [m_up_ne h1, m_up_ne h2, m_up_ne h1]; exact hF.1 a h1 h2 h3, fun j h1 h2 => by rw [m_up_of h1, m_up_ne (by omega), m_up_of h2]; exact hF.2 j h1 h2⟩
            · rw [m_up_ne (by omega), m_up_row, m_up_ne (by omega)]; exact hm.2.2.2.1.push
            · rw [m_up_ne (by omega), m_up_ne (by omega), m_up_ne (by omega)]; exact hm.2.2.2.2.pop
  exact lp W C mi h96 rfl hC (FrS.rf _ _)
theorem dX7_notsOpen_0 : decode fX7_notsOpen.2.1 0 = .ok (.iconst 0, 1) := by decide +kernel
theorem dX7_notsOpen_1 : decode fX7_notsOpen.2.1 1 = .ok (.istore_n 1, 1) := by decide +kernel
theorem dX7_notsOpen_2 : decode fX7_notsOpen.2.1 2 = .ok (.iconst 0, 1) := by decide +kernel
theorem dX7_notsOpen_3 : decode fX7_notsOpen.2.1 3 = .ok (.istore_n 2, 1) := by decide +kernel
theorem dX7_notsOpen_4 : decode fX7_notsOpen.2.1 4 = .ok (.iload_n 2, 1) := by decide +kernel
theorem dX7_notsOpen_5 : decode fX7_notsOpen.2.1 5 = .ok (.aload_n 0, 1) := by decide +kernel
theorem dX7_notsOpen_6 : decode fX7_notsOpen.2.1 6 = .ok (.getfield 225, 3) := by decide +kernel
theorem dX7_notsOpen_9 : decode fX7_notsOpen.2.1 9 = .ok (.if_icmp .ge 28, 3) := by decide +kernel
theorem dX7_notsOpen_12 : decode fX7_notsOpen.2.1 12 = .ok (.iload_n 1, 1) := by decide +kernel
theorem dX7_notsOpen_13 : decode fX7_notsOpen.2.1 13 = .ok (.aload_n 0, 1) := by decide +kernel
theorem dX7_notsOpen_14 : decode fX7_notsOpen.2.1 14 = .ok (.getfield 38, 3) := by decide +kernel
theorem dX7_notsOpen_17 : decode fX7_notsOpen.2.1 17 = .ok (.iload_n 2, 1) := by decide +kernel
theorem dX7_notsOpen_18 : decode fX7_notsOpen.2.1 18 = .ok (.iaload, 1) := by decide +kernel
theorem dX7_notsOpen_19 : decode fX7_notsOpen.2.1 19 = .ok (.bipush (-10), 2) := by decide +kernel
theorem dX7_notsOpen_21 : decode fX7_notsOpen.2.1 21 = .ok (.if_icmp .ne 7, 3) := by decide +kernel
theorem dX7_notsOpen_24 : decode fX7_notsOpen.2.1 24 = .ok (.iconst 1, 1) := by decide +kernel
theorem dX7_notsOpen_25 : decode fX7_notsOpen.2.1 25 = .ok (.goto 4, 3) := by decide +kernel
theorem dX7_notsOpen_28 : decode fX7_notsOpen.2.1 28 = .ok (.iconst 0, 1) := by decide +kernel
theorem dX7_notsOpen_29 : decode fX7_notsOpen.2.1 29 = .ok (.iadd, 1) := by decide +kernel
theorem dX7_notsOpen_30 : decode fX7_notsOpen.2.1 30 = .ok (.istore_n 1, 1) := by decide +kernel
theorem dX7_notsOpen_31 : decode fX7_notsOpen.2.1 31 = .ok (.iinc 2 1, 3) := by decide +kernel
theorem dX7_notsOpen_34 : decode fX7_notsOpen.2.1 34 = .ok (.goto (-30), 3) := by decide +kernel
theorem dX7_notsOpen_37 : decode fX7_notsOpen.2.1 37 = .ok (.iload_n 1, 1) := by decide +kernel
theorem dX7_notsOpen_38 : decode fX7_notsOpen.2.1 38 = .ok (.ireturn, 1) := by decide +kernel
set_option maxRecDepth 100000 in
set_option maxHeartbeats 4000000 in
theorem ok_X7_notsOpen {X : Xb} {S : Sg} {mi : Mem} {o : Nat} {W : List Int32} (hM : MdA S o) (h20 : mi o 20 = nI W.length) (hW : StkR (mi (o + 10)) W) (h96 : W.length ≤ 96) : OkI 0 fX7_notsOpen X [rf X o] S mi (nI (cntN W)) mi := by
  refine Ok.go [some (rf X o), none, none] (by decide) (by simp [Value.category]) (Nat.le_of_ble_eq_true rfl) rfl ?_
  obtain ⟨k_o, ⟨r_o_now, k_o_now⟩, ⟨r_o_image, k_o_image⟩, ⟨r_o_aside, k_o_aside⟩, ⟨r_o_seen, k_o_seen⟩, ⟨r_o_unlike, k_o_unlike⟩, ⟨r_o_tape, k_o_tape⟩, ⟨r_o_keys, k_o_keys⟩, ⟨r_o_keyAt, k_o_keyAt⟩, ⟨r_o_code, k_o_code⟩, ⟨r_o_waits, k_o_waits⟩, ⟨r_o_tested, k_o_tested⟩, ⟨r_o_stack, k_o_stack⟩, ⟨r_o_facts, k_o_facts⟩, ⟨r_o_sorts, k_o_sorts⟩, ⟨r_o_sizes, k_o_sizes⟩, ⟨r_o_cells, k_o_cells⟩, ⟨r_o_holds, k_o_holds⟩, ⟨r_o_holdsA, k_o_holdsA⟩, ⟨r_o_holdsB, k_o_holdsB⟩, ⟨r_o_heldCells, k_o_heldCells⟩, ⟨r_o_moved, k_o_moved⟩, ⟨r_o_tells, k_o_tells⟩⟩ := id hM
  have lp : ∀ (V : List Int32) k n, k + V.length = W.length → StkR (mi (o + 10)) W → (∀ j, j < V.length → mi (o + 10) (k + j) = V.getD j 0) → n + cntN V = cntN W → MW X fX7_notsOpen (rmOf 0 0 0) 0 0 4 [some (rf X o), some (.int (nI n)), some (.int (nI k))] [] S mi (mQ X 0 0 (pI (nI (cntN W)) S mi)) := by
    intro V
    induction V with
    | nil =>
      intro k n hk _ _ hn
      have : n = cntN W := by simpa [cntN] using hn
      refine mw_iload_n dX7_notsOpen_4 rfl ?_
      refine mw_aload_n dX7_notsOpen_5 rfl ?_
      refine mw_geti dX7_notsOpen_6 fl_X7_225 rfl (by assumption) ?_
      rw [h20]
      refine mw_icmp_ge (tgt := 37) dX7_notsOpen_9 (by decide) (fun h9 => ?_) (fun h9 => ?_)
      · skip
        refine mw_iload_n dX7_notsOpen_37 rfl ?_
        exact mw_iret dX7_notsOpen_38 rfl (by decide) (by decide) (⟨by rw [this], rfl, rfl⟩)
      · skip
        exact absurd (nI_le (show W.length ≤ k by simpa using (show W.length ≤ k from by simp at hk; omega)) (by simp at hk; omega)) h9
    | cons v V ih =>
      intro k n hk hS hV hn
      have hk' : k + (V.length + 1) = W.length := hk
      have ev : mi (o + 10) k = v := by have := hV 0 (by simp); simpa using this
      have hV' : ∀ j, j < V.length → mi (o + 10) (k + 1 + j) = V.getD j 0 := fun j hj => by
        have := hV (j + 1) (by simp; omega)
        rw [show k + (j + 1) = k + 1 + j by omega] at this
        rw [this]; rfl
      simp only [cntN] at hn
      have a0 : nI n + 0 = nI n := Int32.add_zero _
      refine mw_iload_n dX7_notsOpen_4 rfl ?_
      refine mw_aload_n dX7_notsOpen_5 rfl ?_
      refine mw_geti dX7_notsOpen_6 fl_X7_225 rfl (by assumption) ?_
      rw [h20]
      refine mw_icmp_ge (tgt := 37) dX7_notsOpen_9 (by decide) (fun h9 => ?_) (fun h9 => ?_)
      · skip
        exact absurd h9 (nI_ge (by omega) (by omega))
      · skip
        refine mw_iload_n dX7_notsOpen_12 rfl ?_
        refine mw_aload_n dX7_notsOpen_13 rfl ?_
        refine mw_getr dX7_notsOpen_14 fl_X7_38 rfl (by assumption) (by assumption) ?_
        refine mw_iload_n dX7_notsOpen_17 rfl ?_
        refine mw_ialdK (k := k) dX7_notsOpen_18 (by assumption) (rfl) (by omega) (by decide) ?_
        rw [ev]
        refine mw_bipush (v := (-10)) dX7_notsOpen_19 (by decide) ?_
        refine mw_icmp_ne (tgt := 28) dX7_notsOpen_21 (by decide) (fun h21 => ?_) (fun h21 => ?_)
        · skip
          refine mw_iconst (v := 0) dX7_notsOpen_28 (by decide) ?_
          refine mw_iadd dX7_notsOpen_29 ?_
          first
            | rw [nI_1]
            | rw [a0]
            | fail "stop"
          refine mw_istN 1 dX7_notsOpen_30 rfl (by decide) ?_
          refine mw_iincK (k := k) dX7_notsOpen_31 rfl rfl (by decide) ?_
          refine mw_goto (tgt := 4) dX7_notsOpen_34 (by decide) ?_
          first
            | (rw [if_pos h21] at hn; exact MW.sub (by simp [lsub]) (ih (k + 1) (n + 1) (by omega) hS hV' (by omega)))
            | (rw [if_neg h21] at hn; exact MW.sub (by simp [lsub]) (ih (k + 1) n (by omega) hS hV' (by omega)))
            | fail "stop"
        · skip
          refine mw_iconst (v := 1) dX7_notsOpen_24 (by decide) ?_
          refine mw_goto (tgt := 29) dX7_notsOpen_25 (by decide) ?_
          refine mw_iadd dX7_notsOpen_29 ?_
          first
            | rw [nI_1]
            | rw [a0]
            | fail "stop"
          refine mw_istN 1 dX7_notsOpen_30 rfl (by decide) ?_
          refine mw_iincK (k := k) dX7_notsOpen_31 rfl rfl (by decide) ?_
          refine mw_goto (tgt := 4) dX7_notsOpen_34 (by decide) ?_
          first
            | (rw [if_pos h21] at hn; exact MW.sub (by simp [lsub]) (ih (k + 1) (n + 1) (by omega) hS hV' (by omega)))
            | (rw [if_neg h21] at hn; exact MW.sub (by simp [lsub]) (ih (k + 1) n (by omega) hS hV' (by omega)))
            | fail "stop"
  have cr : ∀ (l : List Int32) (a : Int32), cntN (l ++ [a]) = cntN l + (if a = -10 then 1 else 0) := by
    intro l a
    induction l with
    | nil => simp [cntN]
    | cons x l ih => simp only [List.cons_append, cntN, ih]; omega
  have crev : ∀ l : List Int32, cntN l.reverse = cntN l := by
    intro l
    induction l with
    | nil => rfl
    | cons x l ih => rw [List.reverse_cons, cr, ih]; simp only [cntN]; omega
  have hrev : ∀ j, j < W.reverse.length → mi (o + 10) (0 + j) = W.reverse.getD j 0 := by
    intro j hj
    rw [List.length_reverse] at hj
    have := hW (W.length - 1 - j) (by omega)
    rw [show W.length - 1 - (W.length - 1 - j) = j by omega] at this
    rw [Nat.zero_add, this, List.getD_eq_getElem?_getD, List.getD_eq_getElem?_getD, List.getElem?_reverse hj]
  refine mw_iconst (v := 0) dX7_notsOpen_0 (by decide) ?_
  refine mw_istN 1 dX7_notsOpen_1 rfl (by decide) ?_
  refine mw_iconst (v := 0) dX7_notsOpen_2 (by decide) ?_
  refine mw_istN 2 dX7_notsOpen_3 rfl (by decide) ?_
  exact MW.sub (by simp [lsub, nI_0]) (lp W.reverse 0 0 (by rw [List.length_reverse]; omega) hW hrev (by rw [crev]; omega))
