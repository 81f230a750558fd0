/-! small methods of the class: helpers, Attic -/
def clampI (v lo hi : Int32) : Int32 := if v < lo then lo else if hi < v then hi else v
def minI (x y : Int32) : Int32 := if y < x then y else x
def maxI (x y : Int32) : Int32 := if x < y then y else x
theorem dX6_within_0 : decode fX6_within.2.1 0 = .ok (.iload_n 0, 1) := by decide +kernel
theorem dX6_within_1 : decode fX6_within.2.1 1 = .ok (.iload_n 1, 1) := by decide +kernel
theorem dX6_within_2 : decode fX6_within.2.1 2 = .ok (.if_icmp .lt 12, 3) := by decide +kernel
theorem dX6_within_5 : decode fX6_within.2.1 5 = .ok (.iload_n 0, 1) := by decide +kernel
theorem dX6_within_6 : decode fX6_within.2.1 6 = .ok (.iload_n 2, 1) := by decide +kernel
theorem dX6_within_7 : decode fX6_within.2.1 7 = .ok (.if_icmp .gt 7, 3) := by decide +kernel
theorem dX6_within_10 : decode fX6_within.2.1 10 = .ok (.iconst 1, 1) := by decide +kernel
theorem dX6_within_11 : decode fX6_within.2.1 11 = .ok (.goto 4, 3) := by decide +kernel
theorem dX6_within_14 : decode fX6_within.2.1 14 = .ok (.iconst 0, 1) := by decide +kernel
theorem dX6_within_15 : decode fX6_within.2.1 15 = .ok (.ireturn, 1) := by decide +kernel
set_option maxRecDepth 100000 in
set_option maxHeartbeats 4000000 in
theorem ok_X6_within {X : Xb} {S : Sg} {mi : Mem} {v lo hi : Int32} : OkI 0 fX6_within X [.int v, .int lo, .int hi] S mi (b2i (lo ≤ v ∧ v ≤ hi)) mi := by
  refine Ok.go [some (.int v), some (.int lo), some (.int hi)] (by decide) (by simp [Value.category]) (Nat.le_of_ble_eq_true rfl) rfl ?_
  refine mw_iload_n dX6_within_0 rfl ?_
  refine mw_iload_n dX6_within_1 rfl ?_
  refine mw_icmp_lt (tgt := 14) dX6_within_2 (by decide) (fun h2 => ?_) (fun h2 => ?_)
  · skip
    refine mw_iconst (v := 0) dX6_within_14 (by decide) ?_
    exact mw_bret dX6_within_15 rfl (by first | exact Or.inl rfl | exact Or.inr rfl | exact b2i_01) (by decide) (by decide) (⟨by grind [b2i], rfl, rfl⟩)
  · skip
    refine mw_iload_n dX6_within_5 rfl ?_
    refine mw_iload_n dX6_within_6 rfl ?_
    refine mw_icmp_gt (tgt := 14) dX6_within_7 (by decide) (fun h7 => ?_) (fun h7 => ?_)
    · skip
      refine mw_iconst (v := 0) dX6_within_14 (by decide) ?_
      exact mw_bret dX6_within_15 rfl (by first | exact Or.inl rfl | exact Or.inr rfl | exact b2i_01) (by decide) (by decide) (⟨by grind [b2i], rfl, rfl⟩)
    · skip
      refine mw_iconst (v := 1) dX6_within_10 (by decide) ?_
      refine mw_goto (tgt := 15) dX6_within_11 (by decide) ?_
      exact mw_bret dX6_within_15 rfl (by first | exact Or.inl rfl | exact Or.inr rfl | exact b2i_01) (by decide) (by decide) (⟨by grind [b2i], rfl, rfl⟩)
theorem dX6_held_0 : decode fX6_held.2.1 0 = .ok (.iconst 0, 1) := by decide +kernel
theorem dX6_held_1 : decode fX6_held.2.1 1 = .ok (.iload_n 1, 1) := by decide +kernel
theorem dX6_held_2 : decode fX6_held.2.1 2 = .ok (.iload_n 0, 1) := by decide +kernel
theorem dX6_held_3 : decode fX6_held.2.1 3 = .ok (.invokestatic 133, 3) := by decide +kernel
theorem dX6_held_6 : decode fX6_held.2.1 6 = .ok (.invokestatic 304, 3) := by decide +kernel
theorem dX6_held_9 : decode fX6_held.2.1 9 = .ok (.ireturn, 1) := by decide +kernel
set_option maxRecDepth 100000 in
set_option maxHeartbeats 4000000 in
theorem ok_X6_held {X : Xb} {S : Sg} {mi : Mem} {v hi : Int32} : OkI 1 fX6_held X [.int v, .int hi] S mi (maxI 0 (minI hi v)) mi := by
  refine Ok.go [some (.int v), some (.int hi)] (by decide) (by simp [Value.category]) (Nat.le_of_ble_eq_true rfl) rfl ?_
  refine mw_iconst (v := 0) dX6_held_0 (by decide) ?_
  refine mw_iload_n dX6_held_1 rfl ?_
  refine mw_iload_n dX6_held_2 rfl ?_
  refine mw_mmin dX6_held_3 ml_X6_133 (Nat.le_of_ble_eq_true rfl) ⟨by decide, by decide⟩ ⟨by decide, by decide⟩ ?_
  refine mw_mmax dX6_held_6 ml_X6_304 (Nat.le_of_ble_eq_true rfl) ⟨by decide, by decide⟩ ⟨by decide, by decide⟩ ?_
  exact mw_iret dX6_held_9 rfl (by decide) (by decide) (⟨rfl, rfl, rfl⟩)
theorem dX0_pay_0 : decode fX0_pay.2.1 0 = .ok (.aload_n 0, 1) := by decide +kernel
theorem dX0_pay_1 : decode fX0_pay.2.1 1 = .ok (.getfield 21, 3) := by decide +kernel
theorem dX0_pay_4 : decode fX0_pay.2.1 4 = .ok (.iload_n 1, 1) := by decide +kernel
theorem dX0_pay_5 : decode fX0_pay.2.1 5 = .ok (.invokestatic 35, 3) := by decide +kernel
theorem dX0_pay_8 : decode fX0_pay.2.1 8 = .ok (.istore_n 2, 1) := by decide +kernel
theorem dX0_pay_9 : decode fX0_pay.2.1 9 = .ok (.aload_n 0, 1) := by decide +kernel
theorem dX0_pay_10 : decode fX0_pay.2.1 10 = .ok (.dup, 1) := by decide +kernel
theorem dX0_pay_11 : decode fX0_pay.2.1 11 = .ok (.getfield 21, 3) := by decide +kernel
theorem dX0_pay_14 : decode fX0_pay.2.1 14 = .ok (.iload_n 2, 1) := by decide +kernel
theorem dX0_pay_15 : decode fX0_pay.2.1 15 = .ok (.isub, 1) := by decide +kernel
theorem dX0_pay_16 : decode fX0_pay.2.1 16 = .ok (.putfield 21, 3) := by decide +kernel
theorem dX0_pay_19 : decode fX0_pay.2.1 19 = .ok (.aload_n 0, 1) := by decide +kernel
theorem dX0_pay_20 : decode fX0_pay.2.1 20 = .ok (.sipush 9999, 3) := by decide +kernel
theorem dX0_pay_23 : decode fX0_pay.2.1 23 = .ok (.aload_n 0, 1) := by decide +kernel
theorem dX0_pay_24 : decode fX0_pay.2.1 24 = .ok (.getfield 24, 3) := by decide +kernel
theorem dX0_pay_27 : decode fX0_pay.2.1 27 = .ok (.iload_n 1, 1) := by decide +kernel
theorem dX0_pay_28 : decode fX0_pay.2.1 28 = .ok (.iadd, 1) := by decide +kernel
theorem dX0_pay_29 : decode fX0_pay.2.1 29 = .ok (.iload_n 2, 1) := by decide +kernel
theorem dX0_pay_30 : decode fX0_pay.2.1 30 = .ok (.isub, 1) := by decide +kernel
theorem dX0_pay_31 : decode fX0_pay.2.1 31 = .ok (.invokestatic 35, 3) := by decide +kernel
theorem dX0_pay_34 : decode fX0_pay.2.1 34 = .ok (.putfield 24, 3) := by decide +kernel
theorem dX0_pay_37 : decode fX0_pay.2.1 37 = .ok (.iload_n 2, 1) := by decide +kernel
theorem dX0_pay_38 : decode fX0_pay.2.1 38 = .ok (.ireturn, 1) := by decide +kernel
set_option maxRecDepth 100000 in
set_option maxHeartbeats 4000000 in
theorem ok_X0_pay {X : Xb} {S : Sg} {mi : Mem} {a : Nat} {rent : Int32} (ha : Kd S a 0 0) : OkI 1 fX0_pay X [rf X a, .int rent] S mi (minI (mi a 3) rent) (m_up (m_up mi a 3 (mi a 3 - minI (mi a 3) rent)) a 4 (minI 9999 (mi a 4 + rent - minI (mi a 3) rent))) := by
  refine Ok.go [some (rf X a), some (.int rent), none] (by decide) (by simp [Value.category]) (Nat.le_of_ble_eq_true rfl) rfl ?_
  refine mw_aload_n dX0_pay_0 rfl ?_
  refine mw_geti dX0_pay_1 fl_X0_21 rfl (by assumption) ?_
  refine mw_iload_n dX0_pay_4 rfl ?_
  refine mw_mmin dX0_pay_5 ml_X0_35 (Nat.le_of_ble_eq_true rfl) ⟨by decide, by decide⟩ ⟨by decide, by decide⟩ ?_
  refine mw_istN 2 dX0_pay_8 rfl (by decide) ?_
  refine mw_aload_n dX0_pay_9 rfl ?_
  refine mw_dup dX0_pay_10 rfl ?_
  refine mw_geti dX0_pay_11 fl_X0_21 rfl (by assumption) ?_
  refine mw_iload_n dX0_pay_14 rfl ?_
  refine mw_isub dX0_pay_15 ?_
  refine mw_puti dX0_pay_16 fl_X0_21 ft_0_3 rfl (rfl) rfl (by assumption) ?_
  refine mw_aload_n dX0_pay_19 rfl ?_
  refine mw_sipush (v := 9999) dX0_pay_20 (by decide) ?_
  refine mw_aload_n dX0_pay_23 rfl ?_
  refine mw_geti dX0_pay_24 fl_X0_24 rfl (by assumption) ?_
  refine mw_iload_n dX0_pay_27 rfl ?_
  refine mw_iadd dX0_pay_28 ?_
  refine mw_iload_n dX0_pay_29 rfl ?_
  refine mw_isub dX0_pay_30 ?_
  refine mw_mmin dX0_pay_31 ml_X0_35 (Nat.le_of_ble_eq_true rfl) ⟨by decide, by decide⟩ ⟨by decide, by decide⟩ ?_
  refine mw_puti dX0_pay_34 fl_X0_24 ft_0_4 rfl (rfl) rfl (by assumption) ?_
  refine mw_iload_n dX0_pay_37 rfl ?_
  exact mw_iret dX0_pay_38 rfl (by decide) (by decide) (⟨rfl, rfl, by simp [m_up, minI]; rfl⟩)
theorem dX0_earn_0 : decode fX0_earn.2.1 0 = .ok (.aload_n 0, 1) := by decide +kernel
theorem dX0_earn_1 : decode fX0_earn.2.1 1 = .ok (.sipush 9999, 3) := by decide +kernel
theorem dX0_earn_4 : decode fX0_earn.2.1 4 = .ok (.aload_n 0, 1) := by decide +kernel
theorem dX0_earn_5 : decode fX0_earn.2.1 5 = .ok (.getfield 21, 3) := by decide +kernel
theorem dX0_earn_8 : decode fX0_earn.2.1 8 = .ok (.iload_n 1, 1) := by decide +kernel
theorem dX0_earn_9 : decode fX0_earn.2.1 9 = .ok (.iadd, 1) := by decide +kernel
theorem dX0_earn_10 : decode fX0_earn.2.1 10 = .ok (.invokestatic 35, 3) := by decide +kernel
theorem dX0_earn_13 : decode fX0_earn.2.1 13 = .ok (.putfield 21, 3) := by decide +kernel
theorem dX0_earn_16 : decode fX0_earn.2.1 16 = .ok (.return_, 1) := by decide +kernel
set_option maxRecDepth 100000 in
set_option maxHeartbeats 4000000 in
theorem ok_X0_earn {X : Xb} {S : Sg} {mi : Mem} {a : Nat} {w : Int32} (ha : Kd S a 0 0) : OkV 1 fX0_earn X [rf X a, .int w] S mi (m_up mi a 3 (minI 9999 (mi a 3 + w))) := by
  refine Ok.go [some (rf X a), some (.int w)] (by decide) (by simp [Value.category]) (Nat.le_of_ble_eq_true rfl) rfl ?_
  refine mw_aload_n dX0_earn_0 rfl ?_
  refine mw_sipush (v := 9999) dX0_earn_1 (by decide) ?_
  refine mw_aload_n dX0_earn_4 rfl ?_
  refine mw_geti dX0_earn_5 fl_X0_21 rfl (by assumption) ?_
  refine mw_iload_n dX0_earn_8 rfl ?_
  refine mw_iadd dX0_earn_9 ?_
  refine mw_mmin dX0_earn_10 ml_X0_35 (Nat.le_of_ble_eq_true rfl) ⟨by decide, by decide⟩ ⟨by decide, by decide⟩ ?_
  refine mw_puti dX0_earn_13 fl_X0_21 ft_0_3 rfl (rfl) rfl (by assumption) ?_
  exact mw_vret dX0_earn_16 rfl (by decide) (by decide) (⟨rfl, rfl, rfl⟩)
theorem dX0_renew_0 : decode fX0_renew.2.1 0 = .ok (.aload_n 0, 1) := by decide +kernel
theorem dX0_renew_1 : decode fX0_renew.2.1 1 = .ok (.iload_n 1, 1) := by decide +kernel
theorem dX0_renew_2 : decode fX0_renew.2.1 2 = .ok (.putfield 9, 3) := by decide +kernel
theorem dX0_renew_5 : decode fX0_renew.2.1 5 = .ok (.aload_n 0, 1) := by decide +kernel
theorem dX0_renew_6 : decode fX0_renew.2.1 6 = .ok (.iload_n 2, 1) := by decide +kernel
theorem dX0_renew_7 : decode fX0_renew.2.1 7 = .ok (.putfield 15, 3) := by decide +kernel
theorem dX0_renew_10 : decode fX0_renew.2.1 10 = .ok (.aload_n 0, 1) := by decide +kernel
theorem dX0_renew_11 : decode fX0_renew.2.1 11 = .ok (.iload_n 3, 1) := by decide +kernel
theorem dX0_renew_12 : decode fX0_renew.2.1 12 = .ok (.putfield 18, 3) := by decide +kernel
theorem dX0_renew_15 : decode fX0_renew.2.1 15 = .ok (.aload_n 0, 1) := by decide +kernel
theorem dX0_renew_16 : decode fX0_renew.2.1 16 = .ok (.iconst 0, 1) := by decide +kernel
theorem dX0_renew_17 : decode fX0_renew.2.1 17 = .ok (.putfield 21, 3) := by decide +kernel
theorem dX0_renew_20 : decode fX0_renew.2.1 20 = .ok (.aload_n 0, 1) := by decide +kernel
theorem dX0_renew_21 : decode fX0_renew.2.1 21 = .ok (.iconst 0, 1) := by decide +kernel
theorem dX0_renew_22 : decode fX0_renew.2.1 22 = .ok (.putfield 24, 3) := by decide +kernel
theorem dX0_renew_25 : decode fX0_renew.2.1 25 = .ok (.return_, 1) := by decide +kernel
set_option maxRecDepth 100000 in
set_option maxHeartbeats 4000000 in
theorem ok_X0_renew {X : Xb} {S : Sg} {mi : Mem} {a : Nat} {k f w : Int32} (ha : Kd S a 0 0) : OkV 0 fX0_renew X [rf X a, .int k, .int f, .int w] S mi (m_up (m_up (m_up (m_up (m_up mi a 0 k) a 1 f) a 2 w) a 3 0) a 4 0) := by
  refine Ok.go [some (rf X a), some (.int k), some (.int f), some (.int w)] (by decide) (by simp [Value.category]) (Nat.le_of_ble_eq_true rfl) rfl ?_
  refine mw_aload_n dX0_renew_0 rfl ?_
  refine mw_iload_n dX0_renew_1 rfl ?_
  refine mw_puti dX0_renew_2 fl_X0_9 ft_0_0 rfl (rfl) rfl (by assumption) ?_
  refine mw_aload_n dX0_renew_5 rfl ?_
  refine mw_iload_n dX0_renew_6 rfl ?_
  refine mw_puti dX0_renew_7 fl_X0_15 ft_0_1 rfl (rfl) rfl (by assumption) ?_
  refine mw_aload_n dX0_renew_10 rfl ?_
  refine mw_iload_n dX0_renew_11 rfl ?_
  refine mw_puti dX0_renew_12 fl_X0_18 ft_0_2 rfl (rfl) rfl (by assumption) ?_
  refine mw_aload_n dX0_renew_15 rfl ?_
  refine mw_iconst (v := 0) dX0_renew_16 (by decide) ?_
  refine mw_puti dX0_renew_17 fl_X0_21 ft_0_3 rfl (rfl) rfl (by assumption) ?_
  refine mw_aload_n dX0_renew_20 rfl ?_
  refine mw_iconst (v := 0) dX0_renew_21 (by decide) ?_
  refine mw_puti dX0_renew_22 fl_X0_24 ft_0_4 rfl (rfl) rfl (by assumption) ?_
  exact mw_vret dX0_renew_25 rfl (by decide) (by decide) (⟨rfl, rfl, rfl⟩)
theorem dX0_takeAfter_0 : decode fX0_takeAfter.2.1 0 = .ok (.aload_n 0, 1) := by decide +kernel
theorem dX0_takeAfter_1 : decode fX0_takeAfter.2.1 1 = .ok (.aload_n 1, 1) := by decide +kernel
theorem dX0_takeAfter_2 : decode fX0_takeAfter.2.1 2 = .ok (.getfield 9, 3) := by decide +kernel
theorem dX0_takeAfter_5 : decode fX0_takeAfter.2.1 5 = .ok (.putfield 9, 3) := by decide +kernel
theorem dX0_takeAfter_8 : decode fX0_takeAfter.2.1 8 = .ok (.aload_n 0, 1) := by decide +kernel
theorem dX0_takeAfter_9 : decode fX0_takeAfter.2.1 9 = .ok (.aload_n 1, 1) := by decide +kernel
theorem dX0_takeAfter_10 : decode fX0_takeAfter.2.1 10 = .ok (.getfield 15, 3) := by decide +kernel
theorem dX0_takeAfter_13 : decode fX0_takeAfter.2.1 13 = .ok (.putfield 15, 3) := by decide +kernel
theorem dX0_takeAfter_16 : decode fX0_takeAfter.2.1 16 = .ok (.aload_n 0, 1) := by decide +kernel
theorem dX0_takeAfter_17 : decode fX0_takeAfter.2.1 17 = .ok (.aload_n 1, 1) := by decide +kernel
theorem dX0_takeAfter_18 : decode fX0_takeAfter.2.1 18 = .ok (.getfield 18, 3) := by decide +kernel
theorem dX0_takeAfter_21 : decode fX0_takeAfter.2.1 21 = .ok (.putfield 18, 3) := by decide +kernel
theorem dX0_takeAfter_24 : decode fX0_takeAfter.2.1 24 = .ok (.aload_n 0, 1) := by decide +kernel
theorem dX0_takeAfter_25 : decode fX0_takeAfter.2.1 25 = .ok (.aload_n 1, 1) := by decide +kernel
theorem dX0_takeAfter_26 : decode fX0_takeAfter.2.1 26 = .ok (.getfield 21, 3) := by decide +kernel
theorem dX0_takeAfter_29 : decode fX0_takeAfter.2.1 29 = .ok (.putfield 21, 3) := by decide +kernel
theorem dX0_takeAfter_32 : decode fX0_takeAfter.2.1 32 = .ok (.aload_n 0, 1) := by decide +kernel
theorem dX0_takeAfter_33 : decode fX0_takeAfter.2.1 33 = .ok (.aload_n 1, 1) := by decide +kernel
theorem dX0_takeAfter_34 : decode fX0_takeAfter.2.1 34 = .ok (.getfield 24, 3) := by decide +kernel
theorem dX0_takeAfter_37 : decode fX0_takeAfter.2.1 37 = .ok (.putfield 24, 3) := by decide +kernel
theorem dX0_takeAfter_40 : decode fX0_takeAfter.2.1 40 = .ok (.return_, 1) := by decide +kernel
set_option maxRecDepth 100000 in
set_option maxHeartbeats 4000000 in
theorem ok_X0_takeAfter {X : Xb} {S : Sg} {mi : Mem} {a b : Nat} (ha : Kd S a 0 0) (hb : Kd S b 0 0) (hab : a ≠ b) : OkV 0 fX0_takeAfter X [rf X a, rf X b] S mi (m_up (m_up (m_up (m_up (m_up mi a 0 (mi b 0)) a 1 (mi b 1)) a 2 (mi b 2)) a 3 (mi b 3)) a 4 (mi b 4)) := by
  refine Ok.go [some (rf X a), some (rf X b)] (by decide) (by simp [Value.category]) (Nat.le_of_ble_eq_true rfl) rfl ?_
  refine mw_aload_n dX0_takeAfter_0 rfl ?_
  refine mw_aload_n dX0_takeAfter_1 rfl ?_
  refine mw_geti dX0_takeAfter_2 fl_X0_9 rfl (by assumption) ?_
  refine mw_puti dX0_takeAfter_5 fl_X0_9 ft_0_0 rfl (rfl) rfl (by assumption) ?_
  refine mw_aload_n dX0_takeAfter_8 rfl ?_
  refine mw_aload_n dX0_takeAfter_9 rfl ?_
  refine mw_geti dX0_takeAfter_10 fl_X0_15 rfl (by assumption) ?_
  refine mw_puti dX0_takeAfter_13 fl_X0_15 ft_0_1 rfl (rfl) rfl (by assumption) ?_
  refine mw_aload_n dX0_takeAfter_16 rfl ?_
  refine mw_aload_n dX0_takeAfter_17 rfl ?_
  refine mw_geti dX0_takeAfter_18 fl_X0_18 rfl (by assumption) ?_
  refine mw_puti dX0_takeAfter_21 fl_X0_18 ft_0_2 rfl (rfl) rfl (by assumption) ?_
  refine mw_aload_n dX0_takeAfter_24 rfl ?_
  refine mw_aload_n dX0_takeAfter_25 rfl ?_
  refine mw_geti dX0_takeAfter_26 fl_X0_21 rfl (by assumption) ?_
  refine mw_puti dX0_takeAfter_29 fl_X0_21 ft_0_3 rfl (rfl) rfl (by assumption) ?_
  refine mw_aload_n dX0_takeAfter_32 rfl ?_
  refine mw_aload_n dX0_takeAfter_33 rfl ?_
  refine mw_geti dX0_takeAfter_34 fl_X0_24 rfl (by assumption) ?_
  refine mw_puti dX0_takeAfter_37 fl_X0_24 ft_0_4 rfl (rfl) rfl (by assumption) ?_
  exact mw_vret dX0_takeAfter_40 rfl (by decide) (by decide) (⟨rfl, rfl, by simp [m_up, Ne.symm hab]⟩)
