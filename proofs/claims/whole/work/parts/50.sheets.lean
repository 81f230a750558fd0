/-! the object's sheets -/
abbrev NOi : Int32 := -1000000002
abbrev NOTHINGi : Int32 := -1000000011
abbrev INDEXi : Int32 := -1000000013
abbrev SIZEi : Int32 := -1000000014
theorem inB {v : Int32} (b : Nat) (hb : b < 2 ^ 31) (h : 0 ≤ v ∧ v ≤ nI b) : ∃ k, k ≤ b ∧ v = nI k := by
  obtain ⟨j, hj, rfl⟩ := nI_of (Int32.not_lt.mpr h.1)
  exact ⟨j, (nI_leI hj hb).mp h.2, rfl⟩
theorem inN {v : Int32} {n : Nat} (h : 0 ≤ v ∧ v ≤ nI n - 1) (hn : n < 2 ^ 31) : ∃ a, a < n ∧ v = nI a := by
  have h0 : ¬ v < 0 := Int32.not_lt.mpr h.1
  obtain ⟨j, hj, rfl⟩ := nI_of h0
  by_cases c : n = 0
  · subst c
    exact absurd h.2 (by have e : nI 0 - 1 = -1 := by decide
                         rw [e]
                         exact fun q => absurd (Int32.le_trans h.1 q) (by decide))
  · rw [nI_sub1 (by omega)] at h
    exact ⟨j, by have := (nI_leI hj (by omega)).mp h.2; omega, rfl⟩
theorem Nin {a n : Nat} (h : a < n) (hn : n < 2 ^ 31) : 0 ≤ nI a ∧ nI a ≤ nI n - 1 := by
  rw [nI_sub1 (by omega)]
  exact ⟨nI_pos' (by omega), nI_le (by omega) (by omega)⟩
/-- what a call answers, and the numbers behind it -/
def PE (S : Sg) (q : Int32 × Mem) : Pt3 := fun r S' m => r = some (.int q.1) ∧ S' = S ∧ m = q.2
def zTo (f : Nat → Int32) (k : Nat) : Nat → Int32 := fun j => if j < k then 0 else f j
theorem zTo_0 (f : Nat → Int32) : zTo f 0 = f := by funext j; simp [zTo]
theorem zTo_s (f : Nat → Int32) (k : Nat) : upd (zTo f k) k 0 = zTo f (k + 1) := by
  funext j
  simp only [upd, zTo]
  grind
theorem dX1_hasPlace_0 : decode fX1_hasPlace.2.1 0 = .ok (.iload_n 1, 1) := by decide +kernel
theorem dX1_hasPlace_1 : decode fX1_hasPlace.2.1 1 = .ok (.iconst 0, 1) := by decide +kernel
theorem dX1_hasPlace_2 : decode fX1_hasPlace.2.1 2 = .ok (.aload_n 0, 1) := by decide +kernel
theorem dX1_hasPlace_3 : decode fX1_hasPlace.2.1 3 = .ok (.getfield 19, 3) := by decide +kernel
theorem dX1_hasPlace_6 : decode fX1_hasPlace.2.1 6 = .ok (.iconst 1, 1) := by decide +kernel
theorem dX1_hasPlace_7 : decode fX1_hasPlace.2.1 7 = .ok (.isub, 1) := by decide +kernel
theorem dX1_hasPlace_8 : decode fX1_hasPlace.2.1 8 = .ok (.invokestatic 28, 3) := by decide +kernel
theorem dX1_hasPlace_11 : decode fX1_hasPlace.2.1 11 = .ok (.ireturn, 1) := by decide +kernel
set_option maxRecDepth 100000 in
set_option maxHeartbeats 4000000 in
theorem ok_X1_hasPlace {X : Xb} {S : Sg} {mi : Mem} {q : Nat} {v : Int32} (hq : Kd S q 1 0) : OkI 1 fX1_hasPlace X [rf X q, .int v] S mi (b2i (0 ≤ v ∧ v ≤ mi q 2 - 1)) mi := by
  refine Ok.go [some (rf X q), some (.int v)] (by decide) (by simp [Value.category]) (Nat.le_of_ble_eq_true rfl) rfl ?_
  refine mw_iload_n dX1_hasPlace_0 rfl ?_
  refine mw_iconst (v := 0) dX1_hasPlace_1 (by decide) ?_
  refine mw_aload_n dX1_hasPlace_2 rfl ?_
  refine mw_geti dX1_hasPlace_3 fl_X1_19 rfl (by assumption) ?_
  refine mw_iconst (v := 1) dX1_hasPlace_6 (by decide) ?_
  refine mw_isub dX1_hasPlace_7 ?_
  refine mw_cSNI (g := fX6_within) dX1_hasPlace_8 nl_X1_28 mfX6_within (ok_X6_within) rfl rfl (Nat.le_of_ble_eq_true rfl) ⟨by decide, by decide⟩ ⟨by decide, by decide⟩ ?_
  exact mw_bret dX1_hasPlace_11 rfl (by first | exact Or.inl rfl | exact Or.inr rfl | exact b2i_01) (by decide) (by decide) (⟨rfl, rfl, rfl⟩)
theorem dX1_hasPlaces_0 : decode fX1_hasPlaces.2.1 0 = .ok (.iload_n 1, 1) := by decide +kernel
theorem dX1_hasPlaces_1 : decode fX1_hasPlaces.2.1 1 = .ok (.ifCond .lt 21, 3) := by decide +kernel
theorem dX1_hasPlaces_4 : decode fX1_hasPlaces.2.1 4 = .ok (.iload_n 2, 1) := by decide +kernel
theorem dX1_hasPlaces_5 : decode fX1_hasPlaces.2.1 5 = .ok (.ifCond .lt 17, 3) := by decide +kernel
theorem dX1_hasPlaces_8 : decode fX1_hasPlaces.2.1 8 = .ok (.iload_n 1, 1) := by decide +kernel
theorem dX1_hasPlaces_9 : decode fX1_hasPlaces.2.1 9 = .ok (.aload_n 0, 1) := by decide +kernel
theorem dX1_hasPlaces_10 : decode fX1_hasPlaces.2.1 10 = .ok (.getfield 19, 3) := by decide +kernel
theorem dX1_hasPlaces_13 : decode fX1_hasPlaces.2.1 13 = .ok (.iload_n 2, 1) := by decide +kernel
theorem dX1_hasPlaces_14 : decode fX1_hasPlaces.2.1 14 = .ok (.isub, 1) := by decide +kernel
theorem dX1_hasPlaces_15 : decode fX1_hasPlaces.2.1 15 = .ok (.if_icmp .gt 7, 3) := by decide +kernel
theorem dX1_hasPlaces_18 : decode fX1_hasPlaces.2.1 18 = .ok (.iconst 1, 1) := by decide +kernel
theorem dX1_hasPlaces_19 : decode fX1_hasPlaces.2.1 19 = .ok (.goto 4, 3) := by decide +kernel
theorem dX1_hasPlaces_22 : decode fX1_hasPlaces.2.1 22 = .ok (.iconst 0, 1) := by decide +kernel
theorem dX1_hasPlaces_23 : decode fX1_hasPlaces.2.1 23 = .ok (.ireturn, 1) := by decide +kernel
set_option maxRecDepth 100000 in
set_option maxHeartbeats 4000000 in
theorem ok_X1_hasPlaces {X : Xb} {S : Sg} {mi : Mem} {q : Nat} {p n : Int32} (hq : Kd S q 1 0) : OkI 0 fX1_hasPlaces X [rf X q, .int p, .int n] S mi (b2i (0 ≤ p ∧ 0 ≤ n ∧ p ≤ mi q 2 - n)) mi := by
  refine Ok.go [some (rf X q), some (.int p), some (.int n)] (by decide) (by simp [Value.category]) (Nat.le_of_ble_eq_true rfl) rfl ?_
  refine mw_iload_n dX1_hasPlaces_0 rfl ?_
  refine mw_if_lt (tgt := 22) dX1_hasPlaces_1 (by decide) (fun h1 => ?_) (fun h1 => ?_)
  · skip
    refine mw_iconst (v := 0) dX1_hasPlaces_22 (by decide) ?_
    exact mw_bret dX1_hasPlaces_23 rfl (by first | exact Or.inl rfl | exact Or.inr rfl | exact b2i_01) (by decide) (by decide) (⟨by first | (rw [b2i_t ⟨Int32.not_lt.mp h1, Int32.not_lt.mp h5, Int32.not_lt.mp h15⟩]; done) | (rw [b2i_f (fun q => absurd q.2.2 (Int32.not_le.mpr h15))]; done) | (rw [b2i_f (fun q => absurd q.2.1 (Int32.not_le.mpr h5))]; done) | (rw [b2i_f (fun q => absurd q.1 (Int32.not_le.mpr h1))]; done), rfl, rfl⟩)
  · skip
    refine mw_iload_n dX1_hasPlaces_4 rfl ?_
    refine mw_if_lt (tgt := 22) dX1_hasPlaces_5 (by decide) (fun h5 => ?_) (fun h5 => ?_)
    · skip
      refine mw_iconst (v := 0) dX1_hasPlaces_22 (by decide) ?_
      exact mw_bret dX1_hasPlaces_23 rfl (by first | exact Or.inl rfl | exact Or.inr rfl | exact b2i_01) (by decide) (by decide) (⟨by first | (rw [b2i_t ⟨Int32.not_lt.mp h1, Int32.not_lt.mp h5, Int32.not_lt.mp h15⟩]; done) | (rw [b2i_f (fun q => absurd q.2.2 (Int32.not_le.mpr h15))]; done) | (rw [b2i_f (fun q => absurd q.2.1 (Int32.not_le.mpr h5))]; done) | (rw [b2i_f (fun q => absurd q.1 (Int32.not_le.mpr h1))]; done), rfl, rfl⟩)
    · skip
      refine mw_iload_n dX1_hasPlaces_8 rfl ?_
      refine mw_aload_n dX1_hasPlaces_9 rfl ?_
      refine mw_geti dX1_hasPlaces_10 fl_X1_19 rfl (by assumption) ?_
      refine mw_iload_n dX1_hasPlaces_13 rfl ?_
      refine mw_isub dX1_hasPlaces_14 ?_
      refine mw_icmp_gt (tgt := 22) dX1_hasPlaces_15 (by decide) (fun h15 => ?_) (fun h15 => ?_)
      · skip
        refine mw_iconst (v := 0) dX1_hasPlaces_22 (by decide) ?_
        exact mw_bret dX1_hasPlaces_23 rfl (by first | exact Or.inl rfl | exact Or.inr rfl | exact b2i_01) (by decide) (by decide) (⟨by first | (rw [b2i_t ⟨Int32.not_lt.mp h1, Int32.not_lt.mp h5, Int32.not_lt.mp h15⟩]; done) | (rw [b2i_f (fun q => absurd q.2.2 (Int32.not_le.mpr h15))]; done) | (rw [b2i_f (fun q => absurd q.2.1 (Int32.not_le.mpr h5))]; done) | (rw [b2i_f (fun q => absurd q.1 (Int32.not_le.mpr h1))]; done), rfl, rfl⟩)
      · skip
        refine mw_iconst (v := 1) dX1_hasPlaces_18 (by decide) ?_
        refine mw_goto (tgt := 23) dX1_hasPlaces_19 (by decide) ?_
        exact mw_bret dX1_hasPlaces_23 rfl (by first | exact Or.inl rfl | exact Or.inr rfl | exact b2i_01) (by decide) (by decide) (⟨by first | (rw [b2i_t ⟨Int32.not_lt.mp h1, Int32.not_lt.mp h5, Int32.not_lt.mp h15⟩]; done) | (rw [b2i_f (fun q => absurd q.2.2 (Int32.not_le.mpr h15))]; done) | (rw [b2i_f (fun q => absurd q.2.1 (Int32.not_le.mpr h5))]; done) | (rw [b2i_f (fun q => absurd q.1 (Int32.not_le.mpr h1))]; done), rfl, rfl⟩)
theorem dX1_hasNumber_0 : decode fX1_hasNumber.2.1 0 = .ok (.aload_n 0, 1) := by decide +kernel
theorem dX1_hasNumber_1 : decode fX1_hasNumber.2.1 1 = .ok (.iload_n 1, 1) := by decide +kernel
theorem dX1_hasNumber_2 : decode fX1_hasNumber.2.1 2 = .ok (.invokevirtual 32, 3) := by decide +kernel
theorem dX1_hasNumber_5 : decode fX1_hasNumber.2.1 5 = .ok (.ifCond .eq 18, 3) := by decide +kernel
theorem dX1_hasNumber_8 : decode fX1_hasNumber.2.1 8 = .ok (.aload_n 0, 1) := by decide +kernel
theorem dX1_hasNumber_9 : decode fX1_hasNumber.2.1 9 = .ok (.getfield 9, 3) := by decide +kernel
theorem dX1_hasNumber_12 : decode fX1_hasNumber.2.1 12 = .ok (.iload_n 1, 1) := by decide +kernel
theorem dX1_hasNumber_13 : decode fX1_hasNumber.2.1 13 = .ok (.iaload, 1) := by decide +kernel
theorem dX1_hasNumber_14 : decode fX1_hasNumber.2.1 14 = .ok (.ldc 36, 2) := by decide +kernel
theorem dX1_hasNumber_16 : decode fX1_hasNumber.2.1 16 = .ok (.if_icmp .eq 7, 3) := by decide +kernel
theorem dX1_hasNumber_19 : decode fX1_hasNumber.2.1 19 = .ok (.iconst 1, 1) := by decide +kernel
theorem dX1_hasNumber_20 : decode fX1_hasNumber.2.1 20 = .ok (.goto 4, 3) := by decide +kernel
theorem dX1_hasNumber_23 : decode fX1_hasNumber.2.1 23 = .ok (.iconst 0, 1) := by decide +kernel
theorem dX1_hasNumber_24 : decode fX1_hasNumber.2.1 24 = .ok (.ireturn, 1) := by decide +kernel
set_option maxRecDepth 100000 in
set_option maxHeartbeats 4000000 in
theorem ok_X1_hasNumber {X : Xb} {S : Sg} {mi : Mem} {q z : Nat} {v : Int32} (hS : ShA S q) (hz : mi q 2 = nI z) (z24 : z ≤ 24) : OkI 2 fX1_hasNumber X [rf X q, .int v] S mi (b2i ((0 ≤ v ∧ v ≤ nI z - 1) ∧ mi (q + 1) v.toNatClampNeg ≠ NONEi)) mi := by
  refine Ok.go [some (rf X q), some (.int v)] (by decide) (by simp [Value.category]) (Nat.le_of_ble_eq_true rfl) rfl ?_
  obtain ⟨k_q, r_q_pl, k_q_pl⟩ := id hS
  refine mw_aload_n dX1_hasNumber_0 rfl ?_
  refine mw_iload_n dX1_hasNumber_1 rfl ?_
  refine mw_cVI (g := fX1_hasPlace) dX1_hasNumber_2 ml_X1_32 mfX1_hasPlace (ok_X1_hasPlace k_q) (by assumption) rfl rfl (Nat.le_of_ble_eq_true rfl) ⟨by decide, by decide⟩ ⟨by decide, by decide⟩ ?_
  rw [hz]
  refine mw_if_eqB (tgt := 23) dX1_hasNumber_5 (by decide) (fun h5 => ?_) (fun h5 => ?_)
  · skip
    refine mw_iconst (v := 0) dX1_hasNumber_23 (by decide) ?_
    exact mw_bret dX1_hasNumber_24 rfl (by first | exact Or.inl rfl | exact Or.inr rfl | exact b2i_01) (by decide) (by decide) (⟨by first | (rw [b2i_f (fun q => h5 q.1)]; done) | (rw [b2i_f (fun q => q.2 (by rw [nI_clamp (by omega)]; exact h16))]; done) | (rw [b2i_t ⟨h5, by rw [nI_clamp (by omega)]; exact h16⟩]; done), rfl, rfl⟩)
  · skip
    obtain ⟨a, ha, rfl⟩ := inN h5 (by omega)
    refine mw_aload_n dX1_hasNumber_8 rfl ?_
    refine mw_getr dX1_hasNumber_9 fl_X1_9 rfl (by assumption) (by assumption) ?_
    refine mw_iload_n dX1_hasNumber_12 rfl ?_
    refine mw_ialdK (k := a) dX1_hasNumber_13 (by assumption) (rfl) (by omega) (by decide) ?_
    refine mw_ldc dX1_hasNumber_14 cn_X1_36 ?_
    refine mw_icmp_eq (tgt := 23) dX1_hasNumber_16 (by decide) (fun h16 => ?_) (fun h16 => ?_)
    · skip
      refine mw_iconst (v := 0) dX1_hasNumber_23 (by decide) ?_
      exact mw_bret dX1_hasNumber_24 rfl (by first | exact Or.inl rfl | exact Or.inr rfl | exact b2i_01) (by decide) (by decide) (⟨by first | (rw [b2i_f (fun q => h5 q.1)]; done) | (rw [b2i_f (fun q => q.2 (by rw [nI_clamp (by omega)]; exact h16))]; done) | (rw [b2i_t ⟨h5, by rw [nI_clamp (by omega)]; exact h16⟩]; done), rfl, rfl⟩)
    · skip
      refine mw_iconst (v := 1) dX1_hasNumber_19 (by decide) ?_
      refine mw_goto (tgt := 24) dX1_hasNumber_20 (by decide) ?_
      exact mw_bret dX1_hasNumber_24 rfl (by first | exact Or.inl rfl | exact Or.inr rfl | exact b2i_01) (by decide) (by decide) (⟨by first | (rw [b2i_f (fun q => h5 q.1)]; done) | (rw [b2i_f (fun q => q.2 (by rw [nI_clamp (by omega)]; exact h16))]; done) | (rw [b2i_t ⟨h5, by rw [nI_clamp (by omega)]; exact h16⟩]; done), rfl, rfl⟩)
theorem dX1_renew_0 : decode fX1_renew.2.1 0 = .ok (.aload_n 0, 1) := by decide +kernel
theorem dX1_renew_1 : decode fX1_renew.2.1 1 = .ok (.iload_n 1, 1) := by decide +kernel
theorem dX1_renew_2 : decode fX1_renew.2.1 2 = .ok (.putfield 15, 3) := by decide +kernel
theorem dX1_renew_5 : decode fX1_renew.2.1 5 = .ok (.aload_n 0, 1) := by decide +kernel
theorem dX1_renew_6 : decode fX1_renew.2.1 6 = .ok (.iload_n 2, 1) := by decide +kernel
theorem dX1_renew_7 : decode fX1_renew.2.1 7 = .ok (.putfield 19, 3) := by decide +kernel
theorem dX1_renew_10 : decode fX1_renew.2.1 10 = .ok (.iconst 0, 1) := by decide +kernel
theorem dX1_renew_11 : decode fX1_renew.2.1 11 = .ok (.istore_n 3, 1) := by decide +kernel
theorem dX1_renew_12 : decode fX1_renew.2.1 12 = .ok (.iload_n 3, 1) := by decide +kernel
theorem dX1_renew_13 : decode fX1_renew.2.1 13 = .ok (.bipush 24, 2) := by decide +kernel
theorem dX1_renew_15 : decode fX1_renew.2.1 15 = .ok (.if_icmp .ge 16, 3) := by decide +kernel
theorem dX1_renew_18 : decode fX1_renew.2.1 18 = .ok (.aload_n 0, 1) := by decide +kernel
theorem dX1_renew_19 : decode fX1_renew.2.1 19 = .ok (.getfield 9, 3) := by decide +kernel
theorem dX1_renew_22 : decode fX1_renew.2.1 22 = .ok (.iload_n 3, 1) := by decide +kernel
theorem dX1_renew_23 : decode fX1_renew.2.1 23 = .ok (.iconst 0, 1) := by decide +kernel
theorem dX1_renew_24 : decode fX1_renew.2.1 24 = .ok (.iastore, 1) := by decide +kernel
theorem dX1_renew_25 : decode fX1_renew.2.1 25 = .ok (.iinc 3 1, 3) := by decide +kernel
theorem dX1_renew_28 : decode fX1_renew.2.1 28 = .ok (.goto (-16), 3) := by decide +kernel
theorem dX1_renew_31 : decode fX1_renew.2.1 31 = .ok (.return_, 1) := by decide +kernel
set_option maxRecDepth 100000 in
set_option maxHeartbeats 4000000 in
theorem ok_X1_renew {X : Xb} {S : Sg} {mi : Mem} {q : Nat} {a b : Int32} (hS : ShA S q) : OkV 0 fX1_renew X [rf X q, .int a, .int b] S mi (m_row (m_up (m_up mi q 1 a) q 2 b) (q + 1) (zTo (mi (q + 1)) 24)) := by
  refine Ok.go [some (rf X q), some (.int a), some (.int b), none] (by decide) (by simp [Value.category]) (Nat.le_of_ble_eq_true rfl) rfl ?_
  obtain ⟨k_q, r_q_pl, k_q_pl⟩ := id hS
  have n1 : q + 1 ≠ q := by omega
  have lp := mw_dn (P := fun k => MW X fX1_renew (rmOf 0 0 0) 0 0 12 [some (rf X q), some (.int a), some (.int b), some (.int (nI k))] [] S (m_row (m_up (m_up mi q 1 a) q 2 b) (q + 1) (zTo (mi (q + 1)) k)) (mQ X 0 0 (pV S (m_row (m_up (m_up mi q 1 a) q 2 b) (q + 1) (zTo (mi (q + 1)) 24))))) 24 (by
    refine mw_iload_n dX1_renew_12 rfl ?_
    refine mw_bipush (v := 24) dX1_renew_13 (by decide) ?_
    refine mw_icmp_ge (tgt := 31) dX1_renew_15 (by decide) (fun h15 => ?_) (fun h15 => ?_)
    · skip
      exact mw_vret dX1_renew_31 rfl (by decide) (by decide) (⟨rfl, rfl, rfl⟩)
    · skip
      exact absurd (by decide) h15) (fun k hk ih => by
    refine mw_iload_n dX1_renew_12 rfl ?_
    refine mw_bipush (v := 24) dX1_renew_13 (by decide) ?_
    refine mw_icmp_ge (tgt := 31) dX1_renew_15 (by decide) (fun h15 => ?_) (fun h15 => ?_)
    · skip
      exact absurd h15 (nI_ge (b := 24) hk (by decide))
    · skip
      refine mw_aload_n dX1_renew_18 rfl ?_
      refine mw_getr dX1_renew_19 fl_X1_9 rfl (by assumption) (by assumption) ?_
      refine mw_iload_n dX1_renew_22 rfl ?_
      refine mw_iconst (v := 0) dX1_renew_23 (by decide) ?_
      refine mw_iastK (k := k) dX1_renew_24 (by assumption) (rfl) (by omega) (by decide) ?_
      rw [m_up_mrow, zTo_s]
      refine mw_iincK (k := k) dX1_renew_25 rfl rfl (by decide) ?_
      refine mw_goto (tgt := 12) dX1_renew_28 (by decide) ?_
      exact MW.sub (by simp [lsub]) ih)
  rw [zTo_0, show m_row (m_up (m_up mi q 1 a) q 2 b) (q + 1) (mi (q + 1)) = m_up (m_up mi q 1 a) q 2 b from by rw [← m_up_ne (mi := mi) (j := 1) (v := a) n1, ← m_up_ne (mi := m_up mi q 1 a) (j := 2) (v := b) n1, m_row_id]] at lp
  refine mw_aload_n dX1_renew_0 rfl ?_
  refine mw_iload_n dX1_renew_1 rfl ?_
  refine mw_puti dX1_renew_2 fl_X1_15 ft_1_1 rfl (rfl) rfl (by assumption) ?_
  refine mw_aload_n dX1_renew_5 rfl ?_
  refine mw_iload_n dX1_renew_6 rfl ?_
  refine mw_puti dX1_renew_7 fl_X1_19 ft_1_2 rfl (rfl) rfl (by assumption) ?_
  refine mw_iconst (v := 0) dX1_renew_10 (by decide) ?_
  refine mw_istN 3 dX1_renew_11 rfl (by decide) ?_
  exact MW.sub (by simp [lsub, nI_0]) lp
theorem dX1_takeAfter_0 : decode fX1_takeAfter.2.1 0 = .ok (.aload_n 0, 1) := by decide +kernel
theorem dX1_takeAfter_1 : decode fX1_takeAfter.2.1 1 = .ok (.aload_n 1, 1) := by decide +kernel
theorem dX1_takeAfter_2 : decode fX1_takeAfter.2.1 2 = .ok (.getfield 15, 3) := by decide +kernel
theorem dX1_takeAfter_5 : decode fX1_takeAfter.2.1 5 = .ok (.putfield 15, 3) := by decide +kernel
theorem dX1_takeAfter_8 : decode fX1_takeAfter.2.1 8 = .ok (.aload_n 0, 1) := by decide +kernel
theorem dX1_takeAfter_9 : decode fX1_takeAfter.2.1 9 = .ok (.aload_n 1, 1) := by decide +kernel
theorem dX1_takeAfter_10 : decode fX1_takeAfter.2.1 10 = .ok (.getfield 19, 3) := by decide +kernel
theorem dX1_takeAfter_13 : decode fX1_takeAfter.2.1 13 = .ok (.putfield 19, 3) := by decide +kernel
theorem dX1_takeAfter_16 : decode fX1_takeAfter.2.1 16 = .ok (.aload_n 1, 1) := by decide +kernel
theorem dX1_takeAfter_17 : decode fX1_takeAfter.2.1 17 = .ok (.getfield 9, 3) := by decide +kernel
theorem dX1_takeAfter_20 : decode fX1_takeAfter.2.1 20 = .ok (.iconst 0, 1) := by decide +kernel
theorem dX1_takeAfter_21 : decode fX1_takeAfter.2.1 21 = .ok (.aload_n 0, 1) := by decide +kernel
theorem dX1_takeAfter_22 : decode fX1_takeAfter.2.1 22 = .ok (.getfield 9, 3) := by decide +kernel
theorem dX1_takeAfter_25 : decode fX1_takeAfter.2.1 25 = .ok (.iconst 0, 1) := by decide +kernel
theorem dX1_takeAfter_26 : decode fX1_takeAfter.2.1 26 = .ok (.bipush 24, 2) := by decide +kernel
theorem dX1_takeAfter_28 : decode fX1_takeAfter.2.1 28 = .ok (.invokestatic 22, 3) := by decide +kernel
theorem dX1_takeAfter_31 : decode fX1_takeAfter.2.1 31 = .ok (.return_, 1) := by decide +kernel
set_option maxRecDepth 100000 in
set_option maxHeartbeats 4000000 in
theorem ok_X1_takeAfter {X : Xb} {S : Sg} {mi : Mem} {q p : Nat} (hS : ShA S q) (hP : ShA S p) (hqp : p ≠ q) : OkV 1 fX1_takeAfter X [rf X q, rf X p] S mi (m_cpy (m_up (m_up mi q 1 (mi p 1)) q 2 (mi p 2)) (p + 1) (q + 1) 0 0 24) := by
  refine Ok.go [some (rf X q), some (rf X p)] (by decide) (by simp [Value.category]) (Nat.le_of_ble_eq_true rfl) rfl ?_
  obtain ⟨k_q, r_q_pl, k_q_pl⟩ := id hS
  obtain ⟨k_p, r_p_pl, k_p_pl⟩ := id hP
  refine mw_aload_n dX1_takeAfter_0 rfl ?_
  refine mw_aload_n dX1_takeAfter_1 rfl ?_
  refine mw_geti dX1_takeAfter_2 fl_X1_15 rfl (by assumption) ?_
  refine mw_puti dX1_takeAfter_5 fl_X1_15 ft_1_1 rfl (rfl) rfl (by assumption) ?_
  refine mw_aload_n dX1_takeAfter_8 rfl ?_
  refine mw_aload_n dX1_takeAfter_9 rfl ?_
  refine mw_geti dX1_takeAfter_10 fl_X1_19 rfl (by assumption) ?_
  rw [m_up_ne hqp]
  refine mw_puti dX1_takeAfter_13 fl_X1_19 ft_1_2 rfl (rfl) rfl (by assumption) ?_
  refine mw_aload_n dX1_takeAfter_16 rfl ?_
  refine mw_getr dX1_takeAfter_17 fl_X1_9 rfl (by assumption) (by assumption) ?_
  refine mw_iconst (v := 0) dX1_takeAfter_20 (by decide) ?_
  refine mw_aload_n dX1_takeAfter_21 rfl ?_
  refine mw_getr dX1_takeAfter_22 fl_X1_9 rfl (by assumption) (by assumption) ?_
  refine mw_iconst (v := 0) dX1_takeAfter_25 (by decide) ?_
  refine mw_bipush (v := 24) dX1_takeAfter_26 (by decide) ?_
  refine mw_acopy dX1_takeAfter_28 ml_X1_22 (by assumption) (by assumption) (by decide) (by decide) (by decide) (by decide) (by decide) (Nat.le_of_ble_eq_true rfl) ⟨by decide, by decide⟩ ?_
  rw [show Int32.toNatClampNeg 0 = 0 from by decide, show Int32.toNatClampNeg 24 = 24 from by decide]
  exact mw_vret dX1_takeAfter_31 rfl (by decide) (by decide) (⟨rfl, rfl, rfl⟩)
def shE (mi : Mem) (q : Nat) (s n : Int32) : Mem := m_row (m_up (m_up mi q 1 s) q 2 n) (q + 1) (zTo (mi (q + 1)) 24)
def cSheet (mi : Mem) (x : Nat) (v s n : Int32) : Int32 × Mem := if (0 ≤ v ∧ v ≤ 3) ∧ (-1 ≤ s ∧ s ≤ 1) then (if s = -1 then (0, shE mi (x + 59 + 2 * v.toNatClampNeg) (-1) 0) else if 24 < n then (BADi, mi) else if n < 0 then (SIZEi, mi) else (n, shE mi (x + 59 + 2 * v.toNatClampNeg) s n)) else (BADi, mi)
theorem dX6_sheet_0 : decode fX6_sheet.2.1 0 = .ok (.iload_n 1, 1) := by decide +kernel
theorem dX6_sheet_1 : decode fX6_sheet.2.1 1 = .ok (.invokestatic 187, 3) := by decide +kernel
theorem dX6_sheet_4 : decode fX6_sheet.2.1 4 = .ok (.ifCond .eq 12, 3) := by decide +kernel
theorem dX6_sheet_7 : decode fX6_sheet.2.1 7 = .ok (.iload_n 2, 1) := by decide +kernel
theorem dX6_sheet_8 : decode fX6_sheet.2.1 8 = .ok (.iconst (-1), 1) := by decide +kernel
theorem dX6_sheet_9 : decode fX6_sheet.2.1 9 = .ok (.iconst 1, 1) := by decide +kernel
theorem dX6_sheet_10 : decode fX6_sheet.2.1 10 = .ok (.invokestatic 50, 3) := by decide +kernel
theorem dX6_sheet_13 : decode fX6_sheet.2.1 13 = .ok (.ifCond .ne 6, 3) := by decide +kernel
theorem dX6_sheet_16 : decode fX6_sheet.2.1 16 = .ok (.ldc 58, 2) := by decide +kernel
theorem dX6_sheet_18 : decode fX6_sheet.2.1 18 = .ok (.ireturn, 1) := by decide +kernel
theorem dX6_sheet_19 : decode fX6_sheet.2.1 19 = .ok (.iload_n 2, 1) := by decide +kernel
theorem dX6_sheet_20 : decode fX6_sheet.2.1 20 = .ok (.iconst (-1), 1) := by decide +kernel
theorem dX6_sheet_21 : decode fX6_sheet.2.1 21 = .ok (.if_icmp .ne 16, 3) := by decide +kernel
theorem dX6_sheet_24 : decode fX6_sheet.2.1 24 = .ok (.aload_n 0, 1) := by decide +kernel
theorem dX6_sheet_25 : decode fX6_sheet.2.1 25 = .ok (.getfield 31, 3) := by decide +kernel
theorem dX6_sheet_28 : decode fX6_sheet.2.1 28 = .ok (.iload_n 1, 1) := by decide +kernel
theorem dX6_sheet_29 : decode fX6_sheet.2.1 29 = .ok (.aaload, 1) := by decide +kernel
theorem dX6_sheet_30 : decode fX6_sheet.2.1 30 = .ok (.iconst (-1), 1) := by decide +kernel
theorem dX6_sheet_31 : decode fX6_sheet.2.1 31 = .ok (.iconst 0, 1) := by decide +kernel
theorem dX6_sheet_32 : decode fX6_sheet.2.1 32 = .ok (.invokevirtual 241, 3) := by decide +kernel
theorem dX6_sheet_35 : decode fX6_sheet.2.1 35 = .ok (.iconst 0, 1) := by decide +kernel
theorem dX6_sheet_36 : decode fX6_sheet.2.1 36 = .ok (.ireturn, 1) := by decide +kernel
theorem dX6_sheet_37 : decode fX6_sheet.2.1 37 = .ok (.iload_n 3, 1) := by decide +kernel
theorem dX6_sheet_38 : decode fX6_sheet.2.1 38 = .ok (.bipush 24, 2) := by decide +kernel
theorem dX6_sheet_40 : decode fX6_sheet.2.1 40 = .ok (.if_icmp .le 6, 3) := by decide +kernel
theorem dX6_sheet_43 : decode fX6_sheet.2.1 43 = .ok (.ldc 58, 2) := by decide +kernel
theorem dX6_sheet_45 : decode fX6_sheet.2.1 45 = .ok (.ireturn, 1) := by decide +kernel
theorem dX6_sheet_46 : decode fX6_sheet.2.1 46 = .ok (.iload_n 3, 1) := by decide +kernel
theorem dX6_sheet_47 : decode fX6_sheet.2.1 47 = .ok (.ifCond .ge 6, 3) := by decide +kernel
theorem dX6_sheet_50 : decode fX6_sheet.2.1 50 = .ok (.ldc 245, 2) := by decide +kernel
theorem dX6_sheet_52 : decode fX6_sheet.2.1 52 = .ok (.ireturn, 1) := by decide +kernel
theorem dX6_sheet_53 : decode fX6_sheet.2.1 53 = .ok (.aload_n 0, 1) := by decide +kernel
theorem dX6_sheet_54 : decode fX6_sheet.2.1 54 = .ok (.getfield 31, 3) := by decide +kernel
theorem dX6_sheet_57 : decode fX6_sheet.2.1 57 = .ok (.iload_n 1, 1) := by decide +kernel
theorem dX6_sheet_58 : decode fX6_sheet.2.1 58 = .ok (.aaload, 1) := by decide +kernel
theorem dX6_sheet_59 : decode fX6_sheet.2.1 59 = .ok (.iload_n 2, 1) := by decide +kernel
theorem dX6_sheet_60 : decode fX6_sheet.2.1 60 = .ok (.iload_n 3, 1) := by decide +kernel
theorem dX6_sheet_61 : decode fX6_sheet.2.1 61 = .ok (.invokevirtual 241, 3) := by decide +kernel
theorem dX6_sheet_64 : decode fX6_sheet.2.1 64 = .ok (.iload_n 3, 1) := by decide +kernel
theorem dX6_sheet_65 : decode fX6_sheet.2.1 65 = .ok (.ireturn, 1) := by decide +kernel
set_option maxRecDepth 100000 in
set_option maxHeartbeats 4000000 in
theorem ok_X6_sheet {X : Xb} {S : Sg} {mi : Mem} {x : Nat} {v s n : Int32} (hX : AsA S x) : Ok 2 0 0 fX6_sheet X [rf X x, .int v, .int s, .int n] S mi (PE S (cSheet mi x v s n)) := by
  refine Ok.go [some (rf X x), some (.int v), some (.int s), some (.int n)] (by decide) (by simp [Value.category]) (Nat.le_of_ble_eq_true rfl) rfl ?_
  obtain ⟨k_x, ⟨r_x_now, t_now⟩, ⟨r_x_thought, t_thought⟩, ⟨r_x_image, t_image⟩, ⟨r_x_tape, t_tape⟩, ⟨r_x_sheets, k_x_sheets⟩, ⟨r_x_slots, k_x_slots⟩, ⟨r_x_waiting, k_x_waiting⟩, ⟨r_x_diff, k_x_diff⟩, a_sheets, a_slots⟩ := id hX
  refine mw_iload_n dX6_sheet_0 rfl ?_
  refine mw_cSI (g := fX6_isSheet) dX6_sheet_1 ml_X6_187 mfX6_isSheet (ok_X6_isSheet) rfl rfl (Nat.le_of_ble_eq_true rfl) ⟨by decide, by decide⟩ ⟨by decide, by decide⟩ ?_
  refine mw_if_eqB (tgt := 16) dX6_sheet_4 (by decide) (fun h4 => ?_) (fun h4 => ?_)
  · skip
    refine mw_ldc dX6_sheet_16 cn_X6_58 ?_
    exact mw_iret dX6_sheet_18 rfl (by decide) (by decide) (by rw [cSheet, if_neg (by grind)]; exact ⟨rfl, rfl, rfl⟩)
  · skip
    refine mw_iload_n dX6_sheet_7 rfl ?_
    refine mw_iconst (v := (-1)) dX6_sheet_8 (by decide) ?_
    refine mw_iconst (v := 1) dX6_sheet_9 (by decide) ?_
    refine mw_cSI (g := fX6_within) dX6_sheet_10 ml_X6_50 mfX6_within (ok_X6_within) rfl rfl (Nat.le_of_ble_eq_true rfl) ⟨by decide, by decide⟩ ⟨by decide, by decide⟩ ?_
    refine mw_if_neB (tgt := 19) dX6_sheet_13 (by decide) (fun h13 => ?_) (fun h13 => ?_)
    · skip
      obtain ⟨i, hi, rfl⟩ := inB 3 (by decide) h4
      have ev : (nI i).toNatClampNeg = i := nI_clamp (by omega)
      have hs := (a_sheets i (by omega)).2
      refine mw_iload_n dX6_sheet_19 rfl ?_
      refine mw_iconst (v := (-1)) dX6_sheet_20 (by decide) ?_
      refine mw_icmp_ne (tgt := 37) dX6_sheet_21 (by decide) (fun h21 => ?_) (fun h21 => ?_)
      · skip
        refine mw_iload_n dX6_sheet_37 rfl ?_
        refine mw_bipush (v := 24) dX6_sheet_38 (by decide) ?_
        refine mw_icmp_le (tgt := 46) dX6_sheet_40 (by decide) (fun h40 => ?_) (fun h40 => ?_)
        · skip
          refine mw_iload_n dX6_sheet_46 rfl ?_
          refine mw_if_ge (tgt := 53) dX6_sheet_47 (by decide) (fun h47 => ?_) (fun h47 => ?_)
          · skip
            refine mw_aload_n dX6_sheet_53 rfl ?_
            refine mw_getr dX6_sheet_54 fl_X6_31 rfl (by assumption) (by assumption) ?_
            refine mw_iload_n dX6_sheet_57 rfl ?_
            refine mw_aldK (k := i) dX6_sheet_58 (by assumption) (by decide) (rfl) (by omega) (by decide) ((a_sheets i (by omega)).1) ?_
            refine mw_iload_n dX6_sheet_59 rfl ?_
            refine mw_iload_n dX6_sheet_60 rfl ?_
            refine mw_cVV (g := fX1_renew) dX6_sheet_61 ml_X6_241 mfX1_renew (ok_X1_renew hs) (hs.1) rfl rfl (Nat.le_of_ble_eq_true rfl) ⟨by decide, by decide⟩ ⟨by decide, by decide⟩ ?_
            refine mw_iload_n dX6_sheet_64 rfl ?_
            exact mw_iret dX6_sheet_65 rfl (by decide) (by decide) (by rw [cSheet, if_pos ⟨h4, h13⟩, if_neg h21, if_neg (Int32.not_lt.mpr h40), if_neg (Int32.not_lt.mpr h47), ev]; exact ⟨rfl, rfl, rfl⟩)
          · skip
            refine mw_ldc dX6_sheet_50 cn_X6_245 ?_
            exact mw_iret dX6_sheet_52 rfl (by decide) (by decide) (by rw [cSheet, if_pos ⟨h4, h13⟩, if_neg h21, if_neg (Int32.not_lt.mpr h40), if_pos (Int32.not_le.mp h47)]; exact ⟨rfl, rfl, rfl⟩)
        · skip
          refine mw_ldc dX6_sheet_43 cn_X6_58 ?_
          exact mw_iret dX6_sheet_45 rfl (by decide) (by decide) (by rw [cSheet, if_pos ⟨h4, h13⟩, if_neg h21, if_pos (Int32.not_le.mp h40)]; exact ⟨rfl, rfl, rfl⟩)
      · skip
        refine mw_aload_n dX6_sheet_24 rfl ?_
        refine mw_getr dX6_sheet_25 fl_X6_31 rfl (by assumption) (by assumption) ?_
        refine mw_iload_n dX6_sheet_28 rfl ?_
        refine mw_aldK (k := i) dX6_sheet_29 (by assumption) (by decide) (rfl) (by omega) (by decide) ((a_sheets i (by omega)).1) ?_
        refine mw_iconst (v := (-1)) dX6_sheet_30 (by decide) ?_
        refine mw_iconst (v := 0) dX6_sheet_31 (by decide) ?_
        refine mw_cVV (g := fX1_renew) dX6_sheet_32 ml_X6_241 mfX1_renew (ok_X1_renew hs) (hs.1) rfl rfl (Nat.le_of_ble_eq_true rfl) ⟨by decide, by decide⟩ ⟨by decide, by decide⟩ ?_
        refine mw_iconst (v := 0) dX6_sheet_35 (by decide) ?_
        exact mw_iret dX6_sheet_36 rfl (by decide) (by decide) (by rw [cSheet, if_pos ⟨h4, h13⟩, if_pos h21, ev]; exact ⟨rfl, rfl, rfl⟩)
    · skip
      refine mw_ldc dX6_sheet_16 cn_X6_58 ?_
      exact mw_iret dX6_sheet_18 rfl (by decide) (by decide) (by rw [cSheet, if_neg (by grind)]; exact ⟨rfl, rfl, rfl⟩)
/-- the sheets' sizes are numbers up to 24 -/
def ShZ (mi : Mem) (x : Nat) : Prop := ∀ i, i < 4 → ∃ z, z ≤ 24 ∧ mi (x + 59 + 2 * i) 2 = nI z
def cMark (mi : Mem) (x : Nat) (v p w : Int32) : Int32 × Mem := if 0 ≤ v ∧ v ≤ 3 then (if mi (x + 59 + 2 * v.toNatClampNeg) 1 = -1 then (NOTHINGi, mi) else if ¬ (0 ≤ p ∧ p ≤ mi (x + 59 + 2 * v.toNatClampNeg) 2 - 1) then (INDEXi, mi) else if mi (x + 59 + 2 * v.toNatClampNeg) 1 = 0 ∧ w = NONEi then (KINDi, mi) else if mi (x + 59 + 2 * v.toNatClampNeg) 1 = 1 ∧ w ≠ NONEi ∧ ¬ (-99999 ≤ w ∧ w ≤ 99999) then (BADi, mi) else (1, m_up mi (x + 59 + 2 * v.toNatClampNeg + 1) p.toNatClampNeg (if mi (x + 59 + 2 * v.toNatClampNeg) 1 = 0 then w.toInt16.toInt32 else w))) else (BADi, mi)
theorem dX6_mark_0 : decode fX6_mark.2.1 0 = .ok (.iload_n 1, 1) := by decide +kernel
theorem dX6_mark_1 : decode fX6_mark.2.1 1 = .ok (.invokestatic 187, 3) := by decide +kernel
theorem dX6_mark_4 : decode fX6_mark.2.1 4 = .ok (.ifCond .ne 6, 3) := by decide +kernel
theorem dX6_mark_7 : decode fX6_mark.2.1 7 = .ok (.ldc 58, 2) := by decide +kernel
theorem dX6_mark_9 : decode fX6_mark.2.1 9 = .ok (.ireturn, 1) := by decide +kernel
theorem dX6_mark_10 : decode fX6_mark.2.1 10 = .ok (.aload_n 0, 1) := by decide +kernel
theorem dX6_mark_11 : decode fX6_mark.2.1 11 = .ok (.getfield 31, 3) := by decide +kernel
theorem dX6_mark_14 : decode fX6_mark.2.1 14 = .ok (.iload_n 1, 1) := by decide +kernel
theorem dX6_mark_15 : decode fX6_mark.2.1 15 = .ok (.aaload, 1) := by decide +kernel
theorem dX6_mark_16 : decode fX6_mark.2.1 16 = .ok (.astore 4, 2) := by decide +kernel
theorem dX6_mark_18 : decode fX6_mark.2.1 18 = .ok (.aload 4, 2) := by decide +kernel
theorem dX6_mark_20 : decode fX6_mark.2.1 20 = .ok (.getfield 190, 3) := by decide +kernel
theorem dX6_mark_23 : decode fX6_mark.2.1 23 = .ok (.iconst (-1), 1) := by decide +kernel
theorem dX6_mark_24 : decode fX6_mark.2.1 24 = .ok (.if_icmp .ne 6, 3) := by decide +kernel
theorem dX6_mark_27 : decode fX6_mark.2.1 27 = .ok (.ldc 193, 2) := by decide +kernel
theorem dX6_mark_29 : decode fX6_mark.2.1 29 = .ok (.ireturn, 1) := by decide +kernel
theorem dX6_mark_30 : decode fX6_mark.2.1 30 = .ok (.aload 4, 2) := by decide +kernel
theorem dX6_mark_32 : decode fX6_mark.2.1 32 = .ok (.iload_n 2, 1) := by decide +kernel
theorem dX6_mark_33 : decode fX6_mark.2.1 33 = .ok (.invokevirtual 246, 3) := by decide +kernel
theorem dX6_mark_36 : decode fX6_mark.2.1 36 = .ok (.ifCond .ne 6, 3) := by decide +kernel
theorem dX6_mark_39 : decode fX6_mark.2.1 39 = .ok (.ldc 249, 2) := by decide +kernel
theorem dX6_mark_41 : decode fX6_mark.2.1 41 = .ok (.ireturn, 1) := by decide +kernel
theorem dX6_mark_42 : decode fX6_mark.2.1 42 = .ok (.aload 4, 2) := by decide +kernel
theorem dX6_mark_44 : decode fX6_mark.2.1 44 = .ok (.getfield 190, 3) := by decide +kernel
theorem dX6_mark_47 : decode fX6_mark.2.1 47 = .ok (.ifCond .ne 12, 3) := by decide +kernel
theorem dX6_mark_50 : decode fX6_mark.2.1 50 = .ok (.iload_n 3, 1) := by decide +kernel
theorem dX6_mark_51 : decode fX6_mark.2.1 51 = .ok (.ldc 182, 2) := by decide +kernel
theorem dX6_mark_53 : decode fX6_mark.2.1 53 = .ok (.if_icmp .ne 6, 3) := by decide +kernel
theorem dX6_mark_56 : decode fX6_mark.2.1 56 = .ok (.ldc 101, 2) := by decide +kernel
theorem dX6_mark_58 : decode fX6_mark.2.1 58 = .ok (.ireturn, 1) := by decide +kernel
theorem dX6_mark_59 : decode fX6_mark.2.1 59 = .ok (.aload 4, 2) := by decide +kernel
theorem dX6_mark_61 : decode fX6_mark.2.1 61 = .ok (.getfield 190, 3) := by decide +kernel
theorem dX6_mark_64 : decode fX6_mark.2.1 64 = .ok (.iconst 1, 1) := by decide +kernel
theorem dX6_mark_65 : decode fX6_mark.2.1 65 = .ok (.if_icmp .ne 23, 3) := by decide +kernel
theorem dX6_mark_68 : decode fX6_mark.2.1 68 = .ok (.iload_n 3, 1) := by decide +kernel
theorem dX6_mark_69 : decode fX6_mark.2.1 69 = .ok (.ldc 182, 2) := by decide +kernel
theorem dX6_mark_71 : decode fX6_mark.2.1 71 = .ok (.if_icmp .eq 17, 3) := by decide +kernel
theorem dX6_mark_74 : decode fX6_mark.2.1 74 = .ok (.iload_n 3, 1) := by decide +kernel
theorem dX6_mark_75 : decode fX6_mark.2.1 75 = .ok (.ldc 250, 2) := by decide +kernel
theorem dX6_mark_77 : decode fX6_mark.2.1 77 = .ok (.ldc 251, 2) := by decide +kernel
theorem dX6_mark_79 : decode fX6_mark.2.1 79 = .ok (.invokestatic 50, 3) := by decide +kernel
theorem dX6_mark_82 : decode fX6_mark.2.1 82 = .ok (.ifCond .ne 6, 3) := by decide +kernel
theorem dX6_mark_85 : decode fX6_mark.2.1 85 = .ok (.ldc 58, 2) := by decide +kernel
theorem dX6_mark_87 : decode fX6_mark.2.1 87 = .ok (.ireturn, 1) := by decide +kernel
theorem dX6_mark_88 : decode fX6_mark.2.1 88 = .ok (.aload 4, 2) := by decide +kernel
theorem dX6_mark_90 : decode fX6_mark.2.1 90 = .ok (.getfield 252, 3) := by decide +kernel
theorem dX6_mark_93 : decode fX6_mark.2.1 93 = .ok (.iload_n 2, 1) := by decide +kernel
theorem dX6_mark_94 : decode fX6_mark.2.1 94 = .ok (.aload 4, 2) := by decide +kernel
theorem dX6_mark_96 : decode fX6_mark.2.1 96 = .ok (.getfield 190, 3) := by decide +kernel
theorem dX6_mark_99 : decode fX6_mark.2.1 99 = .ok (.ifCond .ne 8, 3) := by decide +kernel
theorem dX6_mark_102 : decode fX6_mark.2.1 102 = .ok (.iload_n 3, 1) := by decide +kernel
theorem dX6_mark_103 : decode fX6_mark.2.1 103 = .ok (.i2s, 1) := by decide +kernel
theorem dX6_mark_104 : decode fX6_mark.2.1 104 = .ok (.goto 4, 3) := by decide +kernel
theorem dX6_mark_107 : decode fX6_mark.2.1 107 = .ok (.iload_n 3, 1) := by decide +kernel
theorem dX6_mark_108 : decode fX6_mark.2.1 108 = .ok (.iastore, 1) := by decide +kernel
theorem dX6_mark_109 : decode fX6_mark.2.1 109 = .ok (.iconst 1, 1) := by decide +kernel
theorem dX6_mark_110 : decode fX6_mark.2.1 110 = .ok (.ireturn, 1) := by decide +kernel
set_option maxRecDepth 100000 in
set_option maxHeartbeats 4000000 in
theorem ok_X6_mark {X : Xb} {S : Sg} {mi : Mem} {x : Nat} {v p w : Int32} (hX : AsA S x) (hZ : ShZ mi x) : Ok 2 0 0 fX6_mark X [rf X x, .int v, .int p, .int w] S mi (PE S (cMark mi x v p w)) := by
  refine Ok.go [some (rf X x), some (.int v), some (.int p), some (.int w), none] (by decide) (by simp [Value.category]) (Nat.le_of_ble_eq_true rfl) rfl ?_
  obtain ⟨k_x, ⟨r_x_now, t_now⟩, ⟨r_x_thought, t_thought⟩, ⟨r_x_image, t_image⟩, ⟨r_x_tape, t_tape⟩, ⟨r_x_sheets, k_x_sheets⟩, ⟨r_x_slots, k_x_slots⟩, ⟨r_x_waiting, k_x_waiting⟩, ⟨r_x_diff, k_x_diff⟩, a_sheets, a_slots⟩ := id hX
  refine mw_iload_n dX6_mark_0 rfl ?_
  refine mw_cSI (g := fX6_isSheet) dX6_mark_1 ml_X6_187 mfX6_isSheet (ok_X6_isSheet) rfl rfl (Nat.le_of_ble_eq_true rfl) ⟨by decide, by decide⟩ ⟨by decide, by decide⟩ ?_
  refine mw_if_neB (tgt := 10) dX6_mark_4 (by decide) (fun h4 => ?_) (fun h4 => ?_)
  · skip
    obtain ⟨i, hi, rfl⟩ := inB 3 (by decide) h4
    have ev : (nI i).toNatClampNeg = i := nI_clamp (by omega)
    have hs := (a_sheets i (by omega)).2
    obtain ⟨z, z24, hz⟩ := hZ i (by omega)
    have k_s := hs.1
    have r_s := hs.2.1
    have k_p := hs.2.2
    refine mw_aload_n dX6_mark_10 rfl ?_
    refine mw_getr dX6_mark_11 fl_X6_31 rfl (by assumption) (by assumption) ?_
    refine mw_iload_n dX6_mark_14 rfl ?_
    refine mw_aldK (k := i) dX6_mark_15 (by assumption) (by decide) (rfl) (by omega) (by decide) ((a_sheets i (by omega)).1) ?_
    refine mw_astore dX6_mark_16 (by decide) ?_
    refine mw_aload dX6_mark_18 rfl ?_
    refine mw_geti dX6_mark_20 fl_X6_190 rfl (k_s) ?_
    refine mw_iconst (v := (-1)) dX6_mark_23 (by decide) ?_
    refine mw_icmp_ne (tgt := 30) dX6_mark_24 (by decide) (fun h24 => ?_) (fun h24 => ?_)
    · skip
      refine mw_aload dX6_mark_30 rfl ?_
      refine mw_iload_n dX6_mark_32 rfl ?_
      refine mw_cVI (g := fX1_hasPlace) dX6_mark_33 ml_X6_246 mfX1_hasPlace (ok_X1_hasPlace k_s) (k_s) rfl rfl (Nat.le_of_ble_eq_true rfl) ⟨by decide, by decide⟩ ⟨by decide, by decide⟩ ?_
      refine mw_if_neB (tgt := 42) dX6_mark_36 (by decide) (fun h36 => ?_) (fun h36 => ?_)
      · skip
        have hp := h36
        rw [hz] at hp
        obtain ⟨a, ha, rfl⟩ := inN hp (by omega)
        have ep : (nI a).toNatClampNeg = a := nI_clamp (by omega)
        refine mw_aload dX6_mark_42 rfl ?_
        refine mw_geti dX6_mark_44 fl_X6_190 rfl (k_s) ?_
        refine mw_if_ne (tgt := 59) dX6_mark_47 (by decide) (fun h47 => ?_) (fun h47 => ?_)
        · skip
          refine mw_aload dX6_mark_59 rfl ?_
          refine mw_geti dX6_mark_61 fl_X6_190 rfl (k_s) ?_
          refine mw_iconst (v := 1) dX6_mark_64 (by decide) ?_
          refine mw_icmp_ne (tgt := 88) dX6_mark_65 (by decide) (fun h65 => ?_) (fun h65 => ?_)
          · skip
            refine mw_aload dX6_mark_88 rfl ?_
            refine mw_getr dX6_mark_90 fl_X6_252 rfl (k_s) (r_s) ?_
            refine mw_iload_n dX6_mark_93 rfl ?_
            refine mw_aload dX6_mark_94 rfl ?_
            refine mw_geti dX6_mark_96 fl_X6_190 rfl (k_s) ?_
            refine mw_if_ne (tgt := 107) dX6_mark_99 (by decide) (fun h99 => ?_) (fun h99 => ?_)
            · skip
              refine mw_iload_n dX6_mark_107 rfl ?_
              refine mw_iastK (k := a) dX6_mark_108 (k_p) (rfl) (by omega) (by decide) ?_
              refine mw_iconst (v := 1) dX6_mark_109 (by decide) ?_
              exact mw_iret dX6_mark_110 rfl (by decide) (by decide) (by rw [cMark, if_pos h4, ev, if_neg h24, if_neg (fun g => g h36), if_neg (by grind), if_neg (by grind), ep]; first | (rw [if_pos h99]; exact ⟨rfl, rfl, rfl⟩) | (rw [if_neg h99]; exact ⟨rfl, rfl, rfl⟩) | fail "leaf")
            · skip
              refine mw_iload_n dX6_mark_102 rfl ?_
              refine mw_i2s dX6_mark_103 ?_
              refine mw_goto (tgt := 108) dX6_mark_104 (by decide) ?_
              refine mw_iastK (k := a) dX6_mark_108 (k_p) (rfl) (by omega) (by decide) ?_
              refine mw_iconst (v := 1) dX6_mark_109 (by decide) ?_
              exact mw_iret dX6_mark_110 rfl (by decide) (by decide) (by rw [cMark, if_pos h4, ev, if_neg h24, if_neg (fun g => g h36), if_neg (by grind), if_neg (by grind), ep]; first | (rw [if_pos h99]; exact ⟨rfl, rfl, rfl⟩) | (rw [if_neg h99]; exact ⟨rfl, rfl, rfl⟩) | fail "leaf")
          · skip
            refine mw_iload_n dX6_mark_68 rfl ?_
            refine mw_ldc dX6_mark_69 cn_X6_182 ?_
            refine mw_icmp_eq (tgt := 88) dX6_mark_71 (by decide) (fun h71 => ?_) (fun h71 => ?_)
            · skip
              refine mw_aload dX6_mark_88 rfl ?_
              refine mw_getr dX6_mark_90 fl_X6_252 rfl (k_s) (r_s) ?_
              refine mw_iload_n dX6_mark_93 rfl ?_
              refine mw_aload dX6_mark_94 rfl ?_
              refine mw_geti dX6_mark_96 fl_X6_190 rfl (k_s) ?_
              refine mw_if_ne (tgt := 107) dX6_mark_99 (by decide) (fun h99 => ?_) (fun h99 => ?_)
              · skip
                refine mw_iload_n dX6_mark_107 rfl ?_
                refine mw_iastK (k := a) dX6_mark_108 (k_p) (rfl) (by omega) (by decide) ?_
                refine mw_iconst (v := 1) dX6_mark_109 (by decide) ?_
                exact mw_iret dX6_mark_110 rfl (by decide) (by decide) (by rw [cMark, if_pos h4, ev, if_neg h24, if_neg (fun g => g h36), if_neg (by grind), if_neg (by grind), ep]; first | (rw [if_pos h99]; exact ⟨rfl, rfl, rfl⟩) | (rw [if_neg h99]; exact ⟨rfl, rfl, rfl⟩) | fail "leaf")
              · skip
                refine mw_iload_n dX6_mark_102 rfl ?_
                refine mw_i2s dX6_mark_103 ?_
                refine mw_goto (tgt := 108) dX6_mark_104 (by decide) ?_
                refine mw_iastK (k := a) dX6_mark_108 (k_p) (rfl) (by omega) (by decide) ?_
                refine mw_iconst (v := 1) dX6_mark_109 (by decide) ?_
                exact mw_iret dX6_mark_110 rfl (by decide) (by decide) (by rw [cMark, if_pos h4, ev, if_neg h24, if_neg (fun g => g h36), if_neg (by grind), if_neg (by grind), ep]; first | (rw [if_pos h99]; exact ⟨rfl, rfl, rfl⟩) | (rw [if_neg h99]; exact ⟨rfl, rfl, rfl⟩) | fail "leaf")
            · skip
              refine mw_iload_n dX6_mark_74 rfl ?_
              refine mw_ldc dX6_mark_75 cn_X6_250 ?_
              refine mw_ldc dX6_mark_77 cn_X6_251 ?_
              refine mw_cSI (g := fX6_within) dX6_mark_79 ml_X6_50 mfX6_within (ok_X6_within) rfl rfl (Nat.le_of_ble_eq_true rfl) ⟨by decide, by decide⟩ ⟨by decide, by decide⟩ ?_
              refine mw_if_neB (tgt := 88) dX6_mark_82 (by decide) (fun h82 => ?_) (fun h82 => ?_)
              · skip
                refine mw_aload dX6_mark_88 rfl ?_
                refine mw_getr dX6_mark_90 fl_X6_252 rfl (k_s) (r_s) ?_
                refine mw_iload_n dX6_mark_93 rfl ?_
                refine mw_aload dX6_mark_94 rfl ?_
                refine mw_geti dX6_mark_96 fl_X6_190 rfl (k_s) ?_
                refine mw_if_ne (tgt := 107) dX6_mark_99 (by decide) (fun h99 => ?_) (fun h99 => ?_)
                · skip
                  refine mw_iload_n dX6_mark_107 rfl ?_
                  refine mw_iastK (k := a) dX6_mark_108 (k_p) (rfl) (by omega) (by decide) ?_
                  refine mw_iconst (v := 1) dX6_mark_109 (by decide) ?_
                  exact mw_iret dX6_mark_110 rfl (by decide) (by decide) (by rw [cMark, if_pos h4, ev, if_neg h24, if_neg (fun g => g h36), if_neg (by grind), if_neg (by grind), ep]; first | (rw [if_pos h99]; exact ⟨rfl, rfl, rfl⟩) | (rw [if_neg h99]; exact ⟨rfl, rfl, rfl⟩) | fail "leaf")
                · skip
                  refine mw_iload_n dX6_mark_102 rfl ?_
                  refine mw_i2s dX6_mark_103 ?_
                  refine mw_goto (tgt := 108) dX6_mark_104 (by decide) ?_
                  refine mw_iastK (k := a) dX6_mark_108 (k_p) (rfl) (by omega) (by decide) ?_
                  refine mw_iconst (v := 1) dX6_mark_109 (by decide) ?_
                  exact mw_iret dX6_mark_110 rfl (by decide) (by decide) (by rw [cMark, if_pos h4, ev, if_neg h24, if_neg (fun g => g h36), if_neg (by grind), if_neg (by grind), ep]; first | (rw [if_pos h99]; exact ⟨rfl, rfl, rfl⟩) | (rw [if_neg h99]; exact ⟨rfl, rfl, rfl⟩) | fail "leaf")
              · skip
                refine mw_ldc dX6_mark_85 cn_X6_58 ?_
                exact mw_iret dX6_mark_87 rfl (by decide) (by decide) (by rw [cMark, if_pos h4, ev, if_neg h24, if_neg (fun g => g h36), if_neg (by grind), if_pos ⟨h65, h71, h82⟩]; exact ⟨rfl, rfl, rfl⟩)
        · skip
          refine mw_iload_n dX6_mark_50 rfl ?_
          refine mw_ldc dX6_mark_51 cn_X6_182 ?_
          refine mw_icmp_ne (tgt := 59) dX6_mark_53 (by decide) (fun h53 => ?_) (fun h53 => ?_)
          · skip
            refine mw_aload dX6_mark_59 rfl ?_
            refine mw_geti dX6_mark_61 fl_X6_190 rfl (k_s) ?_
            refine mw_iconst (v := 1) dX6_mark_64 (by decide) ?_
            refine mw_icmp_ne (tgt := 88) dX6_mark_65 (by decide) (fun h65 => ?_) (fun h65 => ?_)
            · skip
              refine mw_aload dX6_mark_88 rfl ?_
              refine mw_getr dX6_mark_90 fl_X6_252 rfl (k_s) (r_s) ?_
              refine mw_iload_n dX6_mark_93 rfl ?_
              refine mw_aload dX6_mark_94 rfl ?_
              refine mw_geti dX6_mark_96 fl_X6_190 rfl (k_s) ?_
              refine mw_if_ne (tgt := 107) dX6_mark_99 (by decide) (fun h99 => ?_) (fun h99 => ?_)
              · skip
                refine mw_iload_n dX6_mark_107 rfl ?_
                refine mw_iastK (k := a) dX6_mark_108 (k_p) (rfl) (by omega) (by decide) ?_
                refine mw_iconst (v := 1) dX6_mark_109 (by decide) ?_
                exact mw_iret dX6_mark_110 rfl (by decide) (by decide) (by rw [cMark, if_pos h4, ev, if_neg h24, if_neg (fun g => g h36), if_neg (by grind), if_neg (by grind), ep]; first | (rw [if_pos h99]; exact ⟨rfl, rfl, rfl⟩) | (rw [if_neg h99]; exact ⟨rfl, rfl, rfl⟩) | fail "leaf")
              · skip
                refine mw_iload_n dX6_mark_102 rfl ?_
                refine mw_i2s dX6_mark_103 ?_
                refine mw_goto (tgt := 108) dX6_mark_104 (by decide) ?_
                refine mw_iastK (k := a) dX6_mark_108 (k_p) (rfl) (by omega) (by decide) ?_
                refine mw_iconst (v := 1) dX6_mark_109 (by decide) ?_
                exact mw_iret dX6_mark_110 rfl (by decide) (by decide) (by rw [cMark, if_pos h4, ev, if_neg h24, if_neg (fun g => g h36), if_neg (by grind), if_neg (by grind), ep]; first | (rw [if_pos h99]; exact ⟨rfl, rfl, rfl⟩) | (rw [if_neg h99]; exact ⟨rfl, rfl, rfl⟩) | fail "leaf")
            · skip
              refine mw_iload_n dX6_mark_68 rfl ?_
              refine mw_ldc dX6_mark_69 cn_X6_182 ?_
              refine mw_icmp_eq (tgt := 88) dX6_mark_71 (by decide) (fun h71 => ?_) (fun h71 => ?_)
              · skip
                refine mw_aload dX6_mark_88 rfl ?_
                refine mw_getr dX6_mark_90 fl_X6_252 rfl (k_s) (r_s) ?_
                refine mw_iload_n dX6_mark_93 rfl ?_
                refine mw_aload dX6_mark_94 rfl ?_
                refine mw_geti dX6_mark_96 fl_X6_190 rfl (k_s) ?_
                refine mw_if_ne (tgt := 107) dX6_mark_99 (by decide) (fun h99 => ?_) (fun h99 => ?_)
                · skip
                  refine mw_iload_n dX6_mark_107 rfl ?_
                  refine mw_iastK (k := a) dX6_mark_108 (k_p) (rfl) (by omega) (by decide) ?_
                  refine mw_iconst (v := 1) dX6_mark_109 (by decide) ?_
                  exact mw_iret dX6_mark_110 rfl (by decide) (by decide) (by rw [cMark, if_pos h4, ev, if_neg h24, if_neg (fun g => g h36), if_neg (by grind), if_neg (by grind), ep]; first | (rw [if_pos h99]; exact ⟨rfl, rfl, rfl⟩) | (rw [if_neg h99]; exact ⟨rfl, rfl, rfl⟩) | fail "leaf")
                · skip
                  refine mw_iload_n dX6_mark_102 rfl ?_
                  refine mw_i2s dX6_mark_103 ?_
                  refine mw_goto (tgt := 108) dX6_mark_104 (by decide) ?_
                  refine mw_iastK (k := a) dX6_mark_108 (k_p) (rfl) (by omega) (by decide) ?_
                  refine mw_iconst (v := 1) dX6_mark_109 (by decide) ?_
                  exact mw_iret dX6_mark_110 rfl (by decide) (by decide) (by rw [cMark, if_pos h4, ev, if_neg h24, if_neg (fun g => g h36), if_neg (by grind), if_neg (by grind), ep]; first | (rw [if_pos h99]; exact ⟨rfl, rfl, rfl⟩) | (rw [if_neg h99]; exact ⟨rfl, rfl, rfl⟩) | fail "leaf")
              · skip
                refine mw_iload_n dX6_mark_74 rfl ?_
                refine mw_ldc dX6_mark_75 cn_X6_250 ?_
                refine mw_ldc dX6_mark_77 cn_X6_251 ?_
                refine mw_cSI (g := fX6_within) dX6_mark_79 ml_X6_50 mfX6_within (ok_X6_within) rfl rfl (Nat.le_of_ble_eq_true rfl) ⟨by decide, by decide⟩ ⟨by decide, by decide⟩ ?_
                refine mw_if_neB (tgt := 88) dX6_mark_82 (by decide) (fun h82 => ?_) (fun h82 => ?_)
                · skip
                  refine mw_aload dX6_mark_88 rfl ?_
                  refine mw_getr dX6_mark_90 fl_X6_252 rfl (k_s) (r_s) ?_
                  refine mw_iload_n dX6_mark_93 rfl ?_
                  refine mw_aload dX6_mark_94 rfl ?_
                  refine mw_geti dX6_mark_96 fl_X6_190 rfl (k_s) ?_
                  refine mw_if_ne (tgt := 107) dX6_mark_99 (by decide) (fun h99 => ?_) (fun h99 => ?_)
                  · skip
                    refine mw_iload_n dX6_mark_107 rfl ?_
                    refine mw_iastK (k := a) dX6_mark_108 (k_p) (rfl) (by omega) (by decide) ?_
                    refine mw_iconst (v := 1) dX6_mark_109 (by decide) ?_
                    exact mw_iret dX6_mark_110 rfl (by decide) (by decide) (by rw [cMark, if_pos h4, ev, if_neg h24, if_neg (fun g => g h36), if_neg (by grind), if_neg (by grind), ep]; first | (rw [if_pos h99]; exact ⟨rfl, rfl, rfl⟩) | (rw [if_neg h99]; exact ⟨rfl, rfl, rfl⟩) | fail "leaf")
                  · skip
                    refine mw_iload_n dX6_mark_102 rfl ?_
                    refine mw_i2s dX6_mark_103 ?_
                    refine mw_goto (tgt := 108) dX6_mark_104 (by decide) ?_
                    refine mw_iastK (k := a) dX6_mark_108 (k_p) (rfl) (by omega) (by decide) ?_
                    refine mw_iconst (v := 1) dX6_mark_109 (by decide) ?_
                    exact mw_iret dX6_mark_110 rfl (by decide) (by decide) (by rw [cMark, if_pos h4, ev, if_neg h24, if_neg (fun g => g h36), if_neg (by grind), if_neg (by grind), ep]; first | (rw [if_pos h99]; exact ⟨rfl, rfl, rfl⟩) | (rw [if_neg h99]; exact ⟨rfl, rfl, rfl⟩) | fail "leaf")
                · skip
                  refine mw_ldc dX6_mark_85 cn_X6_58 ?_
                  exact mw_iret dX6_mark_87 rfl (by decide) (by decide) (by rw [cMark, if_pos h4, ev, if_neg h24, if_neg (fun g => g h36), if_neg (by grind), if_pos ⟨h65, h71, h82⟩]; exact ⟨rfl, rfl, rfl⟩)
          · skip
            refine mw_ldc dX6_mark_56 cn_X6_101 ?_
            exact mw_iret dX6_mark_58 rfl (by decide) (by decide) (by rw [cMark, if_pos h4, ev, if_neg h24, if_neg (fun g => g h36), if_pos ⟨h47, h53⟩]; exact ⟨rfl, rfl, rfl⟩)
      · skip
        refine mw_ldc dX6_mark_39 cn_X6_249 ?_
        exact mw_iret dX6_mark_41 rfl (by decide) (by decide) (by rw [cMark, if_pos h4, ev, if_neg h24, if_pos h36]; exact ⟨rfl, rfl, rfl⟩)
    · skip
      refine mw_ldc dX6_mark_27 cn_X6_193 ?_
      exact mw_iret dX6_mark_29 rfl (by decide) (by decide) (by rw [cMark, if_pos h4, ev, if_pos h24]; exact ⟨rfl, rfl, rfl⟩)
  · skip
    refine mw_ldc dX6_mark_7 cn_X6_58 ?_
    exact mw_iret dX6_mark_9 rfl (by decide) (by decide) (by rw [cMark, if_neg h4]; exact ⟨rfl, rfl, rfl⟩)
def cCopy (mi : Mem) (x : Nat) (f p t a n : Int32) : Int32 × Mem := if (0 ≤ f ∧ f ≤ 3) ∧ (0 ≤ t ∧ t ≤ 3) then (if mi (x + 59 + 2 * f.toNatClampNeg) 1 = -1 ∨ mi (x + 59 + 2 * t.toNatClampNeg) 1 = -1 then (NOTHINGi, mi) else if ¬ mi (x + 59 + 2 * f.toNatClampNeg) 1 = mi (x + 59 + 2 * t.toNatClampNeg) 1 then (KINDi, mi) else if (0 ≤ p ∧ 0 ≤ n ∧ p ≤ mi (x + 59 + 2 * f.toNatClampNeg) 2 - n) ∧ (0 ≤ a ∧ 0 ≤ n ∧ a ≤ mi (x + 59 + 2 * t.toNatClampNeg) 2 - n) then (n, m_cpy mi (x + 59 + 2 * f.toNatClampNeg + 1) (x + 59 + 2 * t.toNatClampNeg + 1) p.toNatClampNeg a.toNatClampNeg n.toNatClampNeg) else (INDEXi, mi)) else (BADi, mi)
theorem plIn {p n : Int32} {z : Nat} (hz : z ≤ 24) (h : 0 ≤ p ∧ 0 ≤ n ∧ p ≤ nI z - n) : p.toNatClampNeg + n.toNatClampNeg ≤ z := by
  obtain ⟨h1, h2, h3⟩ := h
  obtain ⟨a, ha, rfl⟩ := nI_of (Int32.not_lt.mpr h1)
  obtain ⟨b, hb, rfl⟩ := nI_of (Int32.not_lt.mpr h2)
  rw [nI_clamp ha, nI_clamp hb]
  have e3 := Int32.le_iff_toInt_le.mp h3
  rw [Int32.toInt_sub, nI_toInt ha, nI_toInt (by omega), nI_toInt hb, Int.bmod_eq_of_le (by omega) (by omega)] at e3
  omega
theorem dX6_copy_0 : decode fX6_copy.2.1 0 = .ok (.iload_n 1, 1) := by decide +kernel
theorem dX6_copy_1 : decode fX6_copy.2.1 1 = .ok (.invokestatic 187, 3) := by decide +kernel
theorem dX6_copy_4 : decode fX6_copy.2.1 4 = .ok (.ifCond .eq 10, 3) := by decide +kernel
theorem dX6_copy_7 : decode fX6_copy.2.1 7 = .ok (.iload_n 3, 1) := by decide +kernel
theorem dX6_copy_8 : decode fX6_copy.2.1 8 = .ok (.invokestatic 187, 3) := by decide +kernel
theorem dX6_copy_11 : decode fX6_copy.2.1 11 = .ok (.ifCond .ne 6, 3) := by decide +kernel
theorem dX6_copy_14 : decode fX6_copy.2.1 14 = .ok (.ldc 58, 2) := by decide +kernel
theorem dX6_copy_16 : decode fX6_copy.2.1 16 = .ok (.ireturn, 1) := by decide +kernel
theorem dX6_copy_17 : decode fX6_copy.2.1 17 = .ok (.aload_n 0, 1) := by decide +kernel
theorem dX6_copy_18 : decode fX6_copy.2.1 18 = .ok (.getfield 31, 3) := by decide +kernel
theorem dX6_copy_21 : decode fX6_copy.2.1 21 = .ok (.iload_n 1, 1) := by decide +kernel
theorem dX6_copy_22 : decode fX6_copy.2.1 22 = .ok (.aaload, 1) := by decide +kernel
theorem dX6_copy_23 : decode fX6_copy.2.1 23 = .ok (.astore 6, 2) := by decide +kernel
theorem dX6_copy_25 : decode fX6_copy.2.1 25 = .ok (.aload_n 0, 1) := by decide +kernel
theorem dX6_copy_26 : decode fX6_copy.2.1 26 = .ok (.getfield 31, 3) := by decide +kernel
theorem dX6_copy_29 : decode fX6_copy.2.1 29 = .ok (.iload_n 3, 1) := by decide +kernel
theorem dX6_copy_30 : decode fX6_copy.2.1 30 = .ok (.aaload, 1) := by decide +kernel
theorem dX6_copy_31 : decode fX6_copy.2.1 31 = .ok (.astore 7, 2) := by decide +kernel
theorem dX6_copy_33 : decode fX6_copy.2.1 33 = .ok (.aload 6, 2) := by decide +kernel
theorem dX6_copy_35 : decode fX6_copy.2.1 35 = .ok (.getfield 190, 3) := by decide +kernel
theorem dX6_copy_38 : decode fX6_copy.2.1 38 = .ok (.iconst (-1), 1) := by decide +kernel
theorem dX6_copy_39 : decode fX6_copy.2.1 39 = .ok (.if_icmp .eq 12, 3) := by decide +kernel
theorem dX6_copy_42 : decode fX6_copy.2.1 42 = .ok (.aload 7, 2) := by decide +kernel
theorem dX6_copy_44 : decode fX6_copy.2.1 44 = .ok (.getfield 190, 3) := by decide +kernel
theorem dX6_copy_47 : decode fX6_copy.2.1 47 = .ok (.iconst (-1), 1) := by decide +kernel
theorem dX6_copy_48 : decode fX6_copy.2.1 48 = .ok (.if_icmp .ne 6, 3) := by decide +kernel
theorem dX6_copy_51 : decode fX6_copy.2.1 51 = .ok (.ldc 193, 2) := by decide +kernel
theorem dX6_copy_53 : decode fX6_copy.2.1 53 = .ok (.ireturn, 1) := by decide +kernel
theorem dX6_copy_54 : decode fX6_copy.2.1 54 = .ok (.aload 6, 2) := by decide +kernel
theorem dX6_copy_56 : decode fX6_copy.2.1 56 = .ok (.getfield 190, 3) := by decide +kernel
theorem dX6_copy_59 : decode fX6_copy.2.1 59 = .ok (.aload 7, 2) := by decide +kernel
theorem dX6_copy_61 : decode fX6_copy.2.1 61 = .ok (.getfield 190, 3) := by decide +kernel
theorem dX6_copy_64 : decode fX6_copy.2.1 64 = .ok (.if_icmp .eq 6, 3) := by decide +kernel
theorem dX6_copy_67 : decode fX6_copy.2.1 67 = .ok (.ldc 101, 2) := by decide +kernel
theorem dX6_copy_69 : decode fX6_copy.2.1 69 = .ok (.ireturn, 1) := by decide +kernel
theorem dX6_copy_70 : decode fX6_copy.2.1 70 = .ok (.aload 6, 2) := by decide +kernel
theorem dX6_copy_72 : decode fX6_copy.2.1 72 = .ok (.iload_n 2, 1) := by decide +kernel
theorem dX6_copy_73 : decode fX6_copy.2.1 73 = .ok (.iload 5, 2) := by decide +kernel
theorem dX6_copy_75 : decode fX6_copy.2.1 75 = .ok (.invokevirtual 264, 3) := by decide +kernel
theorem dX6_copy_78 : decode fX6_copy.2.1 78 = .ok (.ifCond .eq 15, 3) := by decide +kernel
theorem dX6_copy_81 : decode fX6_copy.2.1 81 = .ok (.aload 7, 2) := by decide +kernel
theorem dX6_copy_83 : decode fX6_copy.2.1 83 = .ok (.iload 4, 2) := by decide +kernel
theorem dX6_copy_85 : decode fX6_copy.2.1 85 = .ok (.iload 5, 2) := by decide +kernel
theorem dX6_copy_87 : decode fX6_copy.2.1 87 = .ok (.invokevirtual 264, 3) := by decide +kernel
theorem dX6_copy_90 : decode fX6_copy.2.1 90 = .ok (.ifCond .ne 6, 3) := by decide +kernel
theorem dX6_copy_93 : decode fX6_copy.2.1 93 = .ok (.ldc 249, 2) := by decide +kernel
theorem dX6_copy_95 : decode fX6_copy.2.1 95 = .ok (.ireturn, 1) := by decide +kernel
theorem dX6_copy_96 : decode fX6_copy.2.1 96 = .ok (.aload 6, 2) := by decide +kernel
theorem dX6_copy_98 : decode fX6_copy.2.1 98 = .ok (.getfield 252, 3) := by decide +kernel
theorem dX6_copy_101 : decode fX6_copy.2.1 101 = .ok (.iload_n 2, 1) := by decide +kernel
theorem dX6_copy_102 : decode fX6_copy.2.1 102 = .ok (.aload 7, 2) := by decide +kernel
theorem dX6_copy_104 : decode fX6_copy.2.1 104 = .ok (.getfield 252, 3) := by decide +kernel
theorem dX6_copy_107 : decode fX6_copy.2.1 107 = .ok (.iload 4, 2) := by decide +kernel
theorem dX6_copy_109 : decode fX6_copy.2.1 109 = .ok (.iload 5, 2) := by decide +kernel
theorem dX6_copy_111 : decode fX6_copy.2.1 111 = .ok (.invokestatic 268, 3) := by decide +kernel
theorem dX6_copy_114 : decode fX6_copy.2.1 114 = .ok (.iload 5, 2) := by decide +kernel
theorem dX6_copy_116 : decode fX6_copy.2.1 116 = .ok (.ireturn, 1) := by decide +kernel
set_option maxRecDepth 100000 in
set_option maxHeartbeats 4000000 in
theorem ok_X6_copy {X : Xb} {S : Sg} {mi : Mem} {x : Nat} {f p t a n : Int32} (hX : AsA S x) (hZ : ShZ mi x) : Ok 2 0 0 fX6_copy X [rf X x, .int f, .int p, .int t, .int a, .int n] S mi (PE S (cCopy mi x f p t a n)) := by
  refine Ok.go [some (rf X x), some (.int f), some (.int p), some (.int t), some (.int a), some (.int n), none, none] (by decide) (by simp [Value.category]) (Nat.le_of_ble_eq_true rfl) rfl ?_
  obtain ⟨k_x, ⟨r_x_now, t_now⟩, ⟨r_x_thought, t_thought⟩, ⟨r_x_image, t_image⟩, ⟨r_x_tape, t_tape⟩, ⟨r_x_sheets, k_x_sheets⟩, ⟨r_x_slots, k_x_slots⟩, ⟨r_x_waiting, k_x_waiting⟩, ⟨r_x_diff, k_x_diff⟩, a_sheets, a_slots⟩ := id hX
  refine mw_iload_n dX6_copy_0 rfl ?_
  refine mw_cSI (g := fX6_isSheet) dX6_copy_1 ml_X6_187 mfX6_isSheet (ok_X6_isSheet) rfl rfl (Nat.le_of_ble_eq_true rfl) ⟨by decide, by decide⟩ ⟨by decide, by decide⟩ ?_
  refine mw_if_eqB (tgt := 14) dX6_copy_4 (by decide) (fun h4 => ?_) (fun h4 => ?_)
  · skip
    refine mw_ldc dX6_copy_14 cn_X6_58 ?_
    exact mw_iret dX6_copy_16 rfl (by decide) (by decide) (by rw [cCopy, if_neg (by grind)]; exact ⟨rfl, rfl, rfl⟩)
  · skip
    refine mw_iload_n dX6_copy_7 rfl ?_
    refine mw_cSI (g := fX6_isSheet) dX6_copy_8 ml_X6_187 mfX6_isSheet (ok_X6_isSheet) rfl rfl (Nat.le_of_ble_eq_true rfl) ⟨by decide, by decide⟩ ⟨by decide, by decide⟩ ?_
    refine mw_if_neB (tgt := 17) dX6_copy_11 (by decide) (fun h11 => ?_) (fun h11 => ?_)
    · skip
      obtain ⟨i, hi, rfl⟩ := inB 3 (by decide) h4
      obtain ⟨j, hj, rfl⟩ := inB 3 (by decide) h11
      have ev : (nI i).toNatClampNeg = i := nI_clamp (by omega)
      have ew : (nI j).toNatClampNeg = j := nI_clamp (by omega)
      have hs := (a_sheets i (by omega)).2
      have ht := (a_sheets j (by omega)).2
      obtain ⟨z, z24, hz⟩ := hZ i (by omega)
      obtain ⟨y, y24, hy⟩ := hZ j (by omega)
      have k_s := hs.1
      have r_s := hs.2.1
      have k_p := hs.2.2
      have k_t := ht.1
      have r_t := ht.2.1
      have k_q := ht.2.2
      refine mw_aload_n dX6_copy_17 rfl ?_
      refine mw_getr dX6_copy_18 fl_X6_31 rfl (by assumption) (by assumption) ?_
      refine mw_iload_n dX6_copy_21 rfl ?_
      refine mw_aldK (k := i) dX6_copy_22 (by assumption) (by decide) (rfl) (by omega) (by decide) ((a_sheets i (by omega)).1) ?_
      refine mw_astore dX6_copy_23 (by decide) ?_
      refine mw_aload_n dX6_copy_25 rfl ?_
      refine mw_getr dX6_copy_26 fl_X6_31 rfl (by assumption) (by assumption) ?_
      refine mw_iload_n dX6_copy_29 rfl ?_
      refine mw_aldK (k := j) dX6_copy_30 (by assumption) (by decide) (rfl) (by omega) (by decide) ((a_sheets j (by omega)).1) ?_
      refine mw_astore dX6_copy_31 (by decide) ?_
      refine mw_aload dX6_copy_33 rfl ?_
      refine mw_geti dX6_copy_35 fl_X6_190 rfl (k_s) ?_
      refine mw_iconst (v := (-1)) dX6_copy_38 (by decide) ?_
      refine mw_icmp_eq (tgt := 51) dX6_copy_39 (by decide) (fun h39 => ?_) (fun h39 => ?_)
      · skip
        refine mw_ldc dX6_copy_51 cn_X6_193 ?_
        exact mw_iret dX6_copy_53 rfl (by decide) (by decide) (by rw [cCopy, if_pos ⟨h4, h11⟩, ev, ew, if_pos (by grind)]; exact ⟨rfl, rfl, rfl⟩)
      · skip
        refine mw_aload dX6_copy_42 rfl ?_
        refine mw_geti dX6_copy_44 fl_X6_190 rfl (k_t) ?_
        refine mw_iconst (v := (-1)) dX6_copy_47 (by decide) ?_
        refine mw_icmp_ne (tgt := 54) dX6_copy_48 (by decide) (fun h48 => ?_) (fun h48 => ?_)
        · skip
          refine mw_aload dX6_copy_54 rfl ?_
          refine mw_geti dX6_copy_56 fl_X6_190 rfl (k_s) ?_
          refine mw_aload dX6_copy_59 rfl ?_
          refine mw_geti dX6_copy_61 fl_X6_190 rfl (k_t) ?_
          refine mw_icmp_eq (tgt := 70) dX6_copy_64 (by decide) (fun h64 => ?_) (fun h64 => ?_)
          · skip
            refine mw_aload dX6_copy_70 rfl ?_
            refine mw_iload_n dX6_copy_72 rfl ?_
            refine mw_iload dX6_copy_73 rfl ?_
            refine mw_cVI (g := fX1_hasPlaces) dX6_copy_75 ml_X6_264 mfX1_hasPlaces (ok_X1_hasPlaces k_s) (k_s) rfl rfl (Nat.le_of_ble_eq_true rfl) ⟨by decide, by decide⟩ ⟨by decide, by decide⟩ ?_
            refine mw_if_eqB (tgt := 93) dX6_copy_78 (by decide) (fun h78 => ?_) (fun h78 => ?_)
            · skip
              refine mw_ldc dX6_copy_93 cn_X6_249 ?_
              exact mw_iret dX6_copy_95 rfl (by decide) (by decide) (by rw [cCopy, if_pos ⟨h4, h11⟩, ev, ew, if_neg (by grind), if_neg (fun g => g h64), if_neg (by grind)]; exact ⟨rfl, rfl, rfl⟩)
            · skip
              refine mw_aload dX6_copy_81 rfl ?_
              refine mw_iload dX6_copy_83 rfl ?_
              refine mw_iload dX6_copy_85 rfl ?_
              refine mw_cVI (g := fX1_hasPlaces) dX6_copy_87 ml_X6_264 mfX1_hasPlaces (ok_X1_hasPlaces k_t) (k_t) rfl rfl (Nat.le_of_ble_eq_true rfl) ⟨by decide, by decide⟩ ⟨by decide, by decide⟩ ?_
              refine mw_if_neB (tgt := 96) dX6_copy_90 (by decide) (fun h90 => ?_) (fun h90 => ?_)
              · skip
                have g1 := h78
                have g2 := h90
                rw [hz] at g1
                rw [hy] at g2
                refine mw_aload dX6_copy_96 rfl ?_
                refine mw_getr dX6_copy_98 fl_X6_252 rfl (k_s) (r_s) ?_
                refine mw_iload_n dX6_copy_101 rfl ?_
                refine mw_aload dX6_copy_102 rfl ?_
                refine mw_getr dX6_copy_104 fl_X6_252 rfl (k_t) (r_t) ?_
                refine mw_iload dX6_copy_107 rfl ?_
                refine mw_iload dX6_copy_109 rfl ?_
                refine mw_acopy dX6_copy_111 ml_X6_268 k_p k_q (Int32.not_lt.mpr h78.1) (Int32.not_lt.mpr h90.1) (Int32.not_lt.mpr h78.2.1) (Nat.le_trans (plIn z24 g1) z24) (Nat.le_trans (plIn y24 g2) y24) (Nat.le_of_ble_eq_true rfl) ⟨by decide, by decide⟩ ?_
                refine mw_iload dX6_copy_114 rfl ?_
                exact mw_iret dX6_copy_116 rfl (by decide) (by decide) (by rw [cCopy, if_pos ⟨h4, h11⟩, ev, ew, if_neg (by grind), if_neg (fun g => g h64), if_pos ⟨h78, h90⟩]; exact ⟨rfl, rfl, rfl⟩)
              · skip
                refine mw_ldc dX6_copy_93 cn_X6_249 ?_
                exact mw_iret dX6_copy_95 rfl (by decide) (by decide) (by rw [cCopy, if_pos ⟨h4, h11⟩, ev, ew, if_neg (by grind), if_neg (fun g => g h64), if_neg (by grind)]; exact ⟨rfl, rfl, rfl⟩)
          · skip
            refine mw_ldc dX6_copy_67 cn_X6_101 ?_
            exact mw_iret dX6_copy_69 rfl (by decide) (by decide) (by rw [cCopy, if_pos ⟨h4, h11⟩, ev, ew, if_neg (by grind), if_pos h64]; exact ⟨rfl, rfl, rfl⟩)
        · skip
          refine mw_ldc dX6_copy_51 cn_X6_193 ?_
          exact mw_iret dX6_copy_53 rfl (by decide) (by decide) (by rw [cCopy, if_pos ⟨h4, h11⟩, ev, ew, if_pos (by grind)]; exact ⟨rfl, rfl, rfl⟩)
    · skip
      refine mw_ldc dX6_copy_14 cn_X6_58 ?_
      exact mw_iret dX6_copy_16 rfl (by decide) (by decide) (by rw [cCopy, if_neg (by grind)]; exact ⟨rfl, rfl, rfl⟩)
