/-! the object's calls: helpers, attics -/
abbrev BADi : Int32 := -1000000001
abbrev FULLi : Int32 := -1000000003
abbrev NONEi : Int32 := -1000000005
abbrev KINDi : Int32 := -1000000012
theorem dX6_isBearing_0 : decode fX6_isBearing.2.1 0 = .ok (.iload_n 0, 1) := by decide +kernel
theorem dX6_isBearing_1 : decode fX6_isBearing.2.1 1 = .ok (.iconst 0, 1) := by decide +kernel
theorem dX6_isBearing_2 : decode fX6_isBearing.2.1 2 = .ok (.bipush 23, 2) := by decide +kernel
theorem dX6_isBearing_4 : decode fX6_isBearing.2.1 4 = .ok (.invokestatic 50, 3) := by decide +kernel
theorem dX6_isBearing_7 : decode fX6_isBearing.2.1 7 = .ok (.ireturn, 1) := by decide +kernel
set_option maxRecDepth 100000 in
set_option maxHeartbeats 4000000 in
theorem ok_X6_isBearing {X : Xb} {S : Sg} {mi : Mem} {v : Int32} : OkI 1 fX6_isBearing X [.int v] S mi (b2i (0 ≤ v ∧ v ≤ 23)) mi := by
  refine Ok.go [some (.int v)] (by decide) (by simp [Value.category]) (Nat.le_of_ble_eq_true rfl) rfl ?_
  refine mw_iload_n dX6_isBearing_0 rfl ?_
  refine mw_iconst (v := 0) dX6_isBearing_1 (by decide) ?_
  refine mw_bipush (v := 23) dX6_isBearing_2 (by decide) ?_
  refine mw_cSI (g := fX6_within) dX6_isBearing_4 ml_X6_50 mfX6_within (ok_X6_within) rfl rfl (Nat.le_of_ble_eq_true rfl) ⟨by decide, by decide⟩ ⟨by decide, by decide⟩ ?_
  exact mw_bret dX6_isBearing_7 rfl (by first | exact Or.inl rfl | exact Or.inr rfl | exact b2i_01) (by decide) (by decide) (⟨rfl, rfl, rfl⟩)
theorem dX6_isStar_0 : decode fX6_isStar.2.1 0 = .ok (.iload_n 0, 1) := by decide +kernel
theorem dX6_isStar_1 : decode fX6_isStar.2.1 1 = .ok (.iconst 0, 1) := by decide +kernel
theorem dX6_isStar_2 : decode fX6_isStar.2.1 2 = .ok (.bipush 7, 2) := by decide +kernel
theorem dX6_isStar_4 : decode fX6_isStar.2.1 4 = .ok (.invokestatic 50, 3) := by decide +kernel
theorem dX6_isStar_7 : decode fX6_isStar.2.1 7 = .ok (.ireturn, 1) := by decide +kernel
set_option maxRecDepth 100000 in
set_option maxHeartbeats 4000000 in
theorem ok_X6_isStar {X : Xb} {S : Sg} {mi : Mem} {v : Int32} : OkI 1 fX6_isStar X [.int v] S mi (b2i (0 ≤ v ∧ v ≤ 7)) mi := by
  refine Ok.go [some (.int v)] (by decide) (by simp [Value.category]) (Nat.le_of_ble_eq_true rfl) rfl ?_
  refine mw_iload_n dX6_isStar_0 rfl ?_
  refine mw_iconst (v := 0) dX6_isStar_1 (by decide) ?_
  refine mw_bipush (v := 7) dX6_isStar_2 (by decide) ?_
  refine mw_cSI (g := fX6_within) dX6_isStar_4 ml_X6_50 mfX6_within (ok_X6_within) rfl rfl (Nat.le_of_ble_eq_true rfl) ⟨by decide, by decide⟩ ⟨by decide, by decide⟩ ?_
  exact mw_bret dX6_isStar_7 rfl (by first | exact Or.inl rfl | exact Or.inr rfl | exact b2i_01) (by decide) (by decide) (⟨rfl, rfl, rfl⟩)
theorem dX6_isSheet_0 : decode fX6_isSheet.2.1 0 = .ok (.iload_n 0, 1) := by decide +kernel
theorem dX6_isSheet_1 : decode fX6_isSheet.2.1 1 = .ok (.iconst 0, 1) := by decide +kernel
theorem dX6_isSheet_2 : decode fX6_isSheet.2.1 2 = .ok (.iconst 3, 1) := by decide +kernel
theorem dX6_isSheet_3 : decode fX6_isSheet.2.1 3 = .ok (.invokestatic 50, 3) := by decide +kernel
theorem dX6_isSheet_6 : decode fX6_isSheet.2.1 6 = .ok (.ireturn, 1) := by decide +kernel
set_option maxRecDepth 100000 in
set_option maxHeartbeats 4000000 in
theorem ok_X6_isSheet {X : Xb} {S : Sg} {mi : Mem} {v : Int32} : OkI 1 fX6_isSheet X [.int v] S mi (b2i (0 ≤ v ∧ v ≤ 3)) mi := by
  refine Ok.go [some (.int v)] (by decide) (by simp [Value.category]) (Nat.le_of_ble_eq_true rfl) rfl ?_
  refine mw_iload_n dX6_isSheet_0 rfl ?_
  refine mw_iconst (v := 0) dX6_isSheet_1 (by decide) ?_
  refine mw_iconst (v := 3) dX6_isSheet_2 (by decide) ?_
  refine mw_cSI (g := fX6_within) dX6_isSheet_3 ml_X6_50 mfX6_within (ok_X6_within) rfl rfl (Nat.le_of_ble_eq_true rfl) ⟨by decide, by decide⟩ ⟨by decide, by decide⟩ ?_
  exact mw_bret dX6_isSheet_6 rfl (by first | exact Or.inl rfl | exact Or.inr rfl | exact b2i_01) (by decide) (by decide) (⟨rfl, rfl, rfl⟩)
theorem dX6_isSlot_0 : decode fX6_isSlot.2.1 0 = .ok (.iload_n 0, 1) := by decide +kernel
theorem dX6_isSlot_1 : decode fX6_isSlot.2.1 1 = .ok (.iconst 0, 1) := by decide +kernel
theorem dX6_isSlot_2 : decode fX6_isSlot.2.1 2 = .ok (.iconst 4, 1) := by decide +kernel
theorem dX6_isSlot_3 : decode fX6_isSlot.2.1 3 = .ok (.invokestatic 50, 3) := by decide +kernel
theorem dX6_isSlot_6 : decode fX6_isSlot.2.1 6 = .ok (.ireturn, 1) := by decide +kernel
set_option maxRecDepth 100000 in
set_option maxHeartbeats 4000000 in
theorem ok_X6_isSlot {X : Xb} {S : Sg} {mi : Mem} {v : Int32} : OkI 1 fX6_isSlot X [.int v] S mi (b2i (0 ≤ v ∧ v ≤ 4)) mi := by
  refine Ok.go [some (.int v)] (by decide) (by simp [Value.category]) (Nat.le_of_ble_eq_true rfl) rfl ?_
  refine mw_iload_n dX6_isSlot_0 rfl ?_
  refine mw_iconst (v := 0) dX6_isSlot_1 (by decide) ?_
  refine mw_iconst (v := 4) dX6_isSlot_2 (by decide) ?_
  refine mw_cSI (g := fX6_within) dX6_isSlot_3 ml_X6_50 mfX6_within (ok_X6_within) rfl rfl (Nat.le_of_ble_eq_true rfl) ⟨by decide, by decide⟩ ⟨by decide, by decide⟩ ?_
  exact mw_bret dX6_isSlot_6 rfl (by first | exact Or.inl rfl | exact Or.inr rfl | exact b2i_01) (by decide) (by decide) (⟨rfl, rfl, rfl⟩)
theorem dX6_isAttic_0 : decode fX6_isAttic.2.1 0 = .ok (.iload_n 1, 1) := by decide +kernel
theorem dX6_isAttic_1 : decode fX6_isAttic.2.1 1 = .ok (.iconst 0, 1) := by decide +kernel
theorem dX6_isAttic_2 : decode fX6_isAttic.2.1 2 = .ok (.aload_n 0, 1) := by decide +kernel
theorem dX6_isAttic_3 : decode fX6_isAttic.2.1 3 = .ok (.getfield 10, 3) := by decide +kernel
theorem dX6_isAttic_6 : decode fX6_isAttic.2.1 6 = .ok (.getfield 130, 3) := by decide +kernel
theorem dX6_isAttic_9 : decode fX6_isAttic.2.1 9 = .ok (.iconst 1, 1) := by decide +kernel
theorem dX6_isAttic_10 : decode fX6_isAttic.2.1 10 = .ok (.isub, 1) := by decide +kernel
theorem dX6_isAttic_11 : decode fX6_isAttic.2.1 11 = .ok (.invokestatic 50, 3) := by decide +kernel
theorem dX6_isAttic_14 : decode fX6_isAttic.2.1 14 = .ok (.ireturn, 1) := by decide +kernel
set_option maxRecDepth 100000 in
set_option maxHeartbeats 4000000 in
theorem ok_X6_isAttic {X : Xb} {S : Sg} {mi : Mem} {x n : Nat} {v : Int32} (hX : AsA S x) (hn : mi (x + 1) 3 = nI n) : OkI 1 fX6_isAttic X [rf X x, .int v] S mi (b2i (0 ≤ v ∧ v ≤ nI n - 1)) mi := by
  refine Ok.go [some (rf X x), some (.int v)] (by decide) (by simp [Value.category]) (Nat.le_of_ble_eq_true rfl) rfl ?_
  obtain ⟨k_x, ⟨r_x_now, t_now⟩, ⟨r_x_thought, t_thought⟩, ⟨r_x_image, t_image⟩, ⟨r_x_tape, t_tape⟩, ⟨r_x_sheets, k_x_sheets⟩, ⟨r_x_slots, k_x_slots⟩, ⟨r_x_waiting, k_x_waiting⟩, ⟨r_x_diff, k_x_diff⟩, a_sheets, a_slots⟩ := id hX
  have k_n := t_now.1
  refine mw_iload_n dX6_isAttic_0 rfl ?_
  refine mw_iconst (v := 0) dX6_isAttic_1 (by decide) ?_
  refine mw_aload_n dX6_isAttic_2 rfl ?_
  refine mw_getr dX6_isAttic_3 fl_X6_10 rfl (by assumption) (by assumption) ?_
  refine mw_geti dX6_isAttic_6 fl_X6_130 rfl (by assumption) ?_
  rw [hn]
  refine mw_iconst (v := 1) dX6_isAttic_9 (by decide) ?_
  refine mw_isub dX6_isAttic_10 ?_
  refine mw_cSI (g := fX6_within) dX6_isAttic_11 ml_X6_50 mfX6_within (ok_X6_within) rfl rfl (Nat.le_of_ble_eq_true rfl) ⟨by decide, by decide⟩ ⟨by decide, by decide⟩ ?_
  exact mw_bret dX6_isAttic_14 rfl (by first | exact Or.inl rfl | exact Or.inr rfl | exact b2i_01) (by decide) (by decide) (⟨rfl, rfl, rfl⟩)
theorem inAt {v : Int32} {n : Nat} (h : 0 ≤ v ∧ v ≤ nI n - 1) (hn : n ≤ 8) : ∃ a, a < n ∧ v = nI a := by
  have h0 : ¬ v < 0 := Int32.not_lt.mpr h.1
  obtain ⟨j, hj, rfl⟩ := nI_of h0
  by_cases c : n = 0
  · subst c
    exact absurd h.2 (by have e : nI 0 - 1 = -1 := by decide
                         rw [e]
                         exact fun q => absurd (Int32.le_trans h.1 q) (by decide))
  · rw [nI_sub1 (by omega)] at h
    exact ⟨j, by have := (nI_leI hj (by omega)).mp h.2; omega, rfl⟩
theorem atIn {a n : Nat} (h : a < n) (hn : n ≤ 8) : 0 ≤ nI a ∧ nI a ≤ nI n - 1 := by
  rw [nI_sub1 (by omega)]
  exact ⟨nI_pos' (by omega), nI_le (by omega) (by omega)⟩
def isoB (k o : Int32) : Bool := decide (o = k) || (decide (o = 0) && !decide (k = 0)) || (decide (k = 3) && decide (o = 1)) || (decide (k = 4) && decide (o = 2))
def isoP (c : Nat) (o : Int32) : Prop := o = nI c ∨ (o = 0 ∧ c ≠ 0) ∨ (c = 3 ∧ o = 1) ∨ (c = 4 ∧ o = 2)
theorem isoB_iff {c : Nat} {o : Int32} (hc : c < 6) : isoB (nI c) o = true ↔ isoP c o := by
  have e0 : nI c = 0 ↔ c = 0 := nI_eq (b := 0) (by omega) (by decide)
  have e3 : nI c = 3 ↔ c = 3 := nI_eq (b := 3) (by omega) (by decide)
  have e4 : nI c = 4 ↔ c = 4 := nI_eq (b := 4) (by omega) (by decide)
  simp only [isoB, isoP, Bool.or_eq_true, Bool.and_eq_true, decide_eq_true_eq, Bool.not_eq_true', decide_eq_false_iff_not, e0, e3, e4]
  grind
theorem dX0_isOf_0 : decode fX0_isOf.2.1 0 = .ok (.aload_n 0, 1) := by decide +kernel
theorem dX0_isOf_1 : decode fX0_isOf.2.1 1 = .ok (.getfield 9, 3) := by decide +kernel
theorem dX0_isOf_4 : decode fX0_isOf.2.1 4 = .ok (.istore_n 2, 1) := by decide +kernel
theorem dX0_isOf_5 : decode fX0_isOf.2.1 5 = .ok (.iconst 0, 1) := by decide +kernel
theorem dX0_isOf_6 : decode fX0_isOf.2.1 6 = .ok (.istore_n 3, 1) := by decide +kernel
theorem dX0_isOf_7 : decode fX0_isOf.2.1 7 = .ok (.iload_n 3, 1) := by decide +kernel
theorem dX0_isOf_8 : decode fX0_isOf.2.1 8 = .ok (.bipush 6, 2) := by decide +kernel
theorem dX0_isOf_10 : decode fX0_isOf.2.1 10 = .ok (.if_icmp .ge 31, 3) := by decide +kernel
theorem dX0_isOf_13 : decode fX0_isOf.2.1 13 = .ok (.iload_n 2, 1) := by decide +kernel
theorem dX0_isOf_14 : decode fX0_isOf.2.1 14 = .ok (.iconst 0, 1) := by decide +kernel
theorem dX0_isOf_15 : decode fX0_isOf.2.1 15 = .ok (.iconst 5, 1) := by decide +kernel
theorem dX0_isOf_16 : decode fX0_isOf.2.1 16 = .ok (.invokestatic 27, 3) := by decide +kernel
theorem dX0_isOf_19 : decode fX0_isOf.2.1 19 = .ok (.ifCond .eq 22, 3) := by decide +kernel
theorem dX0_isOf_22 : decode fX0_isOf.2.1 22 = .ok (.iload_n 2, 1) := by decide +kernel
theorem dX0_isOf_23 : decode fX0_isOf.2.1 23 = .ok (.iload_n 1, 1) := by decide +kernel
theorem dX0_isOf_24 : decode fX0_isOf.2.1 24 = .ok (.if_icmp .ne 5, 3) := by decide +kernel
theorem dX0_isOf_27 : decode fX0_isOf.2.1 27 = .ok (.iconst 1, 1) := by decide +kernel
theorem dX0_isOf_28 : decode fX0_isOf.2.1 28 = .ok (.ireturn, 1) := by decide +kernel
theorem dX0_isOf_29 : decode fX0_isOf.2.1 29 = .ok (.getstatic 31, 3) := by decide +kernel
theorem dX0_isOf_32 : decode fX0_isOf.2.1 32 = .ok (.iload_n 2, 1) := by decide +kernel
theorem dX0_isOf_33 : decode fX0_isOf.2.1 33 = .ok (.iaload, 1) := by decide +kernel
theorem dX0_isOf_34 : decode fX0_isOf.2.1 34 = .ok (.istore_n 2, 1) := by decide +kernel
theorem dX0_isOf_35 : decode fX0_isOf.2.1 35 = .ok (.iinc 3 1, 3) := by decide +kernel
theorem dX0_isOf_38 : decode fX0_isOf.2.1 38 = .ok (.goto (-31), 3) := by decide +kernel
theorem dX0_isOf_41 : decode fX0_isOf.2.1 41 = .ok (.iconst 0, 1) := by decide +kernel
theorem dX0_isOf_42 : decode fX0_isOf.2.1 42 = .ok (.ireturn, 1) := by decide +kernel
set_option maxRecDepth 100000 in
set_option maxHeartbeats 4000000 in
theorem ok_X0_isOf {X : Xb} {S : Sg} {mi : Mem} {a c : Nat} {o : Int32} {R : Bool} (ha : Kd S a 0 0) (hc : mi a 0 = nI c) (hc6 : c < 6) (hR : R = true ↔ isoP c o) : OkI 1 fX0_isOf X [rf X a, .int o] S mi (b2i (R = true)) mi := by
  refine Ok.go [some (rf X a), some (.int o), none, none] (by decide) (by simp [Value.category]) (Nat.le_of_ble_eq_true rfl) rfl ?_
  have m1 : ∀ i, i < 6 → R = false → MW X fX0_isOf (rmOf 1 0 0) 0 0 7 [some (rf X a), some (.int o), some (.int (-1)), some (.int (nI i))] [] S mi (mQ X 0 0 (pI (b2i (R = true)) S mi)) := by
    intro i hi hr
    refine mw_iload_n dX0_isOf_7 rfl ?_
    refine mw_bipush (v := 6) dX0_isOf_8 (by decide) ?_
    refine mw_icmp_ge (tgt := 41) dX0_isOf_10 (by decide) (fun h10 => ?_) (fun h10 => ?_)
    · skip
      refine mw_iconst (v := 0) dX0_isOf_41 (by decide) ?_
      exact mw_bret dX0_isOf_42 rfl (by first | exact Or.inl rfl | exact Or.inr rfl | exact b2i_01) (by decide) (by decide) (⟨by simp [hr, b2i], rfl, rfl⟩)
    · skip
      refine mw_iload_n dX0_isOf_13 rfl ?_
      refine mw_iconst (v := 0) dX0_isOf_14 (by decide) ?_
      refine mw_iconst (v := 5) dX0_isOf_15 (by decide) ?_
      refine mw_cSNI (g := fX6_within) dX0_isOf_16 nl_X0_27 mfX6_within (ok_X6_within) rfl rfl (Nat.le_of_ble_eq_true rfl) ⟨by decide, by decide⟩ ⟨by decide, by decide⟩ ?_
      refine mw_if_eqB (tgt := 41) dX0_isOf_19 (by decide) (fun h19 => ?_) (fun h19 => ?_)
      · skip
        refine mw_iconst (v := 0) dX0_isOf_41 (by decide) ?_
        exact mw_bret dX0_isOf_42 rfl (by first | exact Or.inl rfl | exact Or.inr rfl | exact b2i_01) (by decide) (by decide) (⟨by simp [hr, b2i], rfl, rfl⟩)
      · skip
        exact absurd h19.1 (by decide)
  have st : ∀ c i, c < 6 → i < 6 → (o = nI c → R = true) → (o ≠ nI c → ∀ v, kaF c = .int v → MW X fX0_isOf (rmOf 1 0 0) 0 0 7 [some (rf X a), some (.int o), some (.int v), some (.int (nI (i + 1)))] [] S mi (mQ X 0 0 (pI (b2i (R = true)) S mi))) → MW X fX0_isOf (rmOf 1 0 0) 0 0 7 [some (rf X a), some (.int o), some (.int (nI c)), some (.int (nI i))] [] S mi (mQ X 0 0 (pI (b2i (R = true)) S mi)) := by
    intro c i hc hi h1 h2
    refine mw_iload_n dX0_isOf_7 rfl ?_
    refine mw_bipush (v := 6) dX0_isOf_8 (by decide) ?_
    refine mw_icmp_ge (tgt := 41) dX0_isOf_10 (by decide) (fun h10 => ?_) (fun h10 => ?_)
    · skip
      refine mw_iconst (v := 0) dX0_isOf_41 (by decide) ?_
      exact mw_bret dX0_isOf_42 rfl (by first | exact Or.inl rfl | exact Or.inr rfl | exact b2i_01) (by decide) (by decide) (⟨by first | exact absurd h10 (nI_ge (b := 6) (by omega) (by decide)) | exact absurd ⟨nI_pos' (by omega), nI_le (b := 5) (by omega) (by decide)⟩ h19, rfl, rfl⟩)
    · skip
      refine mw_iload_n dX0_isOf_13 rfl ?_
      refine mw_iconst (v := 0) dX0_isOf_14 (by decide) ?_
      refine mw_iconst (v := 5) dX0_isOf_15 (by decide) ?_
      refine mw_cSNI (g := fX6_within) dX0_isOf_16 nl_X0_27 mfX6_within (ok_X6_within) rfl rfl (Nat.le_of_ble_eq_true rfl) ⟨by decide, by decide⟩ ⟨by decide, by decide⟩ ?_
      refine mw_if_eqB (tgt := 41) dX0_isOf_19 (by decide) (fun h19 => ?_) (fun h19 => ?_)
      · skip
        refine mw_iconst (v := 0) dX0_isOf_41 (by decide) ?_
        exact mw_bret dX0_isOf_42 rfl (by first | exact Or.inl rfl | exact Or.inr rfl | exact b2i_01) (by decide) (by decide) (⟨by first | exact absurd h10 (nI_ge (b := 6) (by omega) (by decide)) | exact absurd ⟨nI_pos' (by omega), nI_le (b := 5) (by omega) (by decide)⟩ h19, rfl, rfl⟩)
      · skip
        refine mw_iload_n dX0_isOf_22 rfl ?_
        refine mw_iload_n dX0_isOf_23 rfl ?_
        refine mw_icmp_ne (tgt := 29) dX0_isOf_24 (by decide) (fun h24 => ?_) (fun h24 => ?_)
        · skip
          refine mw_getKA dX0_isOf_29 nl_X0_31 ?_
          refine mw_iload_n dX0_isOf_32 rfl ?_
          refine mw_kald dX0_isOf_33 (vp_in_nI hc (by decide)) (by rw [nI_clamp (by omega)]) ?_
          refine mw_istN 2 dX0_isOf_34 rfl (by decide) ?_
          refine mw_iincK (k := i) dX0_isOf_35 rfl rfl (by decide) ?_
          refine mw_goto (tgt := 7) dX0_isOf_38 (by decide) ?_
          exact MW.sub (by simp [lsub]) (h2 (fun q => h24 q.symm) _ rfl)
        · skip
          refine mw_iconst (v := 1) dX0_isOf_27 (by decide) ?_
          exact mw_bret dX0_isOf_28 rfl (by first | exact Or.inl rfl | exact Or.inr rfl | exact b2i_01) (by decide) (by decide) (⟨by rw [h1 h24.symm]; rfl, rfl, rfl⟩)
  have z0 : ∀ i, i < 5 → (R = true ↔ o = 0) → MW X fX0_isOf (rmOf 1 0 0) 0 0 7 [some (rf X a), some (.int o), some (.int (nI 0)), some (.int (nI i))] [] S mi (mQ X 0 0 (pI (b2i (R = true)) S mi)) := fun i hi h =>
    st 0 i (by decide) (by omega) (fun q => h.mpr q) (fun q v hv => by cases hv; exact m1 (i + 1) (by omega) (by cases hh : R; rfl; exact absurd (h.mp hh) q))
  have zz : c ≠ 0 → o ≠ nI c → ¬ (c = 3 ∧ o = 1) → ¬ (c = 4 ∧ o = 2) → (R = true ↔ o = 0) := fun h1 h2 h3 h4 => ⟨fun h => by
    rcases hR.mp h with e | e | e | e
    · exact absurd e h2
    · exact e.1
    · exact absurd e h3
    · exact absurd e h4, fun h => hR.mpr (Or.inr (Or.inl ⟨h, h1⟩))⟩
  have fin : MW X fX0_isOf (rmOf 1 0 0) 0 0 7 [some (rf X a), some (.int o), some (.int (nI c)), some (.int (nI 0))] [] S mi (mQ X 0 0 (pI (b2i (R = true)) S mi)) := by
    have hcc : c = 0 ∨ c = 1 ∨ c = 2 ∨ c = 3 ∨ c = 4 ∨ c = 5 := by omega
    rcases hcc with rfl | rfl | rfl | rfl | rfl | rfl
    · exact z0 0 (by decide) (by rw [hR]; simp [isoP, nI_0])
    · exact st 1 0 (by decide) (by decide) (fun q => hR.mpr (Or.inl q)) (fun q v hv => by cases hv; exact z0 1 (by decide) (zz (by decide) q (by simp) (by simp)))
    · exact st 2 0 (by decide) (by decide) (fun q => hR.mpr (Or.inl q)) (fun q v hv => by cases hv; exact z0 1 (by decide) (zz (by decide) q (by simp) (by simp)))
    · exact st 3 0 (by decide) (by decide) (fun q => hR.mpr (Or.inl q)) (fun q v hv => by cases hv; exact st 1 1 (by decide) (by decide) (fun q2 => hR.mpr (Or.inr (Or.inr (Or.inl ⟨rfl, q2⟩)))) (fun q2 v hv => by cases hv; exact z0 2 (by decide) (zz (by decide) q (fun e => q2 e.2) (by simp))))
    · exact st 4 0 (by decide) (by decide) (fun q => hR.mpr (Or.inl q)) (fun q v hv => by cases hv; exact st 2 1 (by decide) (by decide) (fun q2 => hR.mpr (Or.inr (Or.inr (Or.inr ⟨rfl, q2⟩)))) (fun q2 v hv => by cases hv; exact z0 2 (by decide) (zz (by decide) q (by simp) (fun e => q2 e.2))))
    · exact st 5 0 (by decide) (by decide) (fun q => hR.mpr (Or.inl q)) (fun q v hv => by cases hv; exact z0 1 (by decide) (zz (by decide) q (by simp) (by simp)))
  refine mw_aload_n dX0_isOf_0 rfl ?_
  refine mw_geti dX0_isOf_1 fl_X0_9 rfl (by assumption) ?_
  rw [hc]
  refine mw_istN 2 dX0_isOf_4 rfl (by decide) ?_
  refine mw_iconst (v := 0) dX0_isOf_5 (by decide) ?_
  refine mw_istN 3 dX0_isOf_6 rfl (by decide) ?_
  exact MW.sub (by simp [lsub, nI_0]) fin
/-- of the town at t only what lies in its own cells differs, its texts' row not -/
def Fr1 (t : Nat) (mi m : Mem) : Prop := ∀ a, (a < t ∨ t + 17 ≤ a ∨ a = t + 5) → m a = mi a
theorem Fr1.rf (t : Nat) (mi : Mem) : Fr1 t mi mi := fun _ _ => rfl
theorem Fr1.of {t : Nat} {mi m : Mem} (h : Frt t mi m) : Fr1 t mi m := fun a ha => h a (by omega) (by omega) (by omega) (by omega)
theorem Fr1.tr {t : Nat} {a b c : Mem} (h : Fr1 t a b) (k : Fr1 t b c) : Fr1 t a c := fun x hx => (k x hx).trans (h x hx)
theorem Fr1.up {t i k : Nat} {a b : Mem} {v : Int32} (h : Fr1 t a b) (hi : t ≤ i ∧ i < t + 17 ∧ i ≠ t + 5) : Fr1 t a (m_up b i k v) := fun x hx => by rw [m_up_ne (by omega)]; exact h x hx
abbrev Sp : Type := Int32 × (Nat → Int32) × Nat
/-- what a call answers, and the row and its number of attics behind it -/
def PS (S : Sg) (mi : Mem) (x : Nat) (q : Sp) : Pt3 := fun r S' m => r = some (.int q.1) ∧ S' = S ∧ eqOn (26 + 5 * q.2.2) (tv m (x + 1)) q.2.1 ∧ Fr1 (x + 1) mi m
def sAttic (A : Nat → Int32) (n : Nat) (k f w : Int32) : Sp := if (0 ≤ k ∧ k ≤ 5) ∧ (0 ≤ f ∧ f ≤ 23) ∧ (1 ≤ w ∧ w ≤ 12) then (if n = 8 then (FULLi, A, n) else (nI n, comesF A n k f w, n + 1)) else (BADi, A, n)
theorem dX6_attic_0 : decode fX6_attic.2.1 0 = .ok (.iload_n 1, 1) := by decide +kernel
theorem dX6_attic_1 : decode fX6_attic.2.1 1 = .ok (.iconst 0, 1) := by decide +kernel
theorem dX6_attic_2 : decode fX6_attic.2.1 2 = .ok (.iconst 5, 1) := by decide +kernel
theorem dX6_attic_3 : decode fX6_attic.2.1 3 = .ok (.invokestatic 50, 3) := by decide +kernel
theorem dX6_attic_6 : decode fX6_attic.2.1 6 = .ok (.ifCond .eq 20, 3) := by decide +kernel
theorem dX6_attic_9 : decode fX6_attic.2.1 9 = .ok (.iload_n 2, 1) := by decide +kernel
theorem dX6_attic_10 : decode fX6_attic.2.1 10 = .ok (.invokestatic 54, 3) := by decide +kernel
theorem dX6_attic_13 : decode fX6_attic.2.1 13 = .ok (.ifCond .eq 13, 3) := by decide +kernel
theorem dX6_attic_16 : decode fX6_attic.2.1 16 = .ok (.iload_n 3, 1) := by decide +kernel
theorem dX6_attic_17 : decode fX6_attic.2.1 17 = .ok (.iconst 1, 1) := by decide +kernel
theorem dX6_attic_18 : decode fX6_attic.2.1 18 = .ok (.bipush 12, 2) := by decide +kernel
theorem dX6_attic_20 : decode fX6_attic.2.1 20 = .ok (.invokestatic 50, 3) := by decide +kernel
theorem dX6_attic_23 : decode fX6_attic.2.1 23 = .ok (.ifCond .ne 6, 3) := by decide +kernel
theorem dX6_attic_26 : decode fX6_attic.2.1 26 = .ok (.ldc 58, 2) := by decide +kernel
theorem dX6_attic_28 : decode fX6_attic.2.1 28 = .ok (.ireturn, 1) := by decide +kernel
theorem dX6_attic_29 : decode fX6_attic.2.1 29 = .ok (.aload_n 0, 1) := by decide +kernel
theorem dX6_attic_30 : decode fX6_attic.2.1 30 = .ok (.getfield 10, 3) := by decide +kernel
theorem dX6_attic_33 : decode fX6_attic.2.1 33 = .ok (.iload_n 1, 1) := by decide +kernel
theorem dX6_attic_34 : decode fX6_attic.2.1 34 = .ok (.iload_n 2, 1) := by decide +kernel
theorem dX6_attic_35 : decode fX6_attic.2.1 35 = .ok (.iload_n 3, 1) := by decide +kernel
theorem dX6_attic_36 : decode fX6_attic.2.1 36 = .ok (.invokevirtual 59, 3) := by decide +kernel
theorem dX6_attic_39 : decode fX6_attic.2.1 39 = .ok (.ireturn, 1) := by decide +kernel
set_option maxRecDepth 100000 in
set_option maxHeartbeats 4000000 in
theorem ok_X6_attic {X : Xb} {S : Sg} {mi : Mem} {x n : Nat} {A : Nat → Int32} {k f w : Int32} (hX : AsA S x) (hn8 : n ≤ 8) (hA : eqOn (26 + 5 * n) (tv mi (x + 1)) A) (hn : A 1 = nI n) : Ok 2 0 0 fX6_attic X [rf X x, .int k, .int f, .int w] S mi (PS S mi x (sAttic A n k f w)) := by
  refine Ok.go [some (rf X x), some (.int k), some (.int f), some (.int w)] (by decide) (by simp [Value.category]) (Nat.le_of_ble_eq_true rfl) rfl ?_
  obtain ⟨k_x, ⟨r_x_now, t_now⟩, ⟨r_x_thought, t_thought⟩, ⟨r_x_image, t_image⟩, ⟨r_x_tape, t_tape⟩, ⟨r_x_sheets, k_x_sheets⟩, ⟨r_x_slots, k_x_slots⟩, ⟨r_x_waiting, k_x_waiting⟩, ⟨r_x_diff, k_x_diff⟩, a_sheets, a_slots⟩ := id hX
  refine mw_iload_n dX6_attic_0 rfl ?_
  refine mw_iconst (v := 0) dX6_attic_1 (by decide) ?_
  refine mw_iconst (v := 5) dX6_attic_2 (by decide) ?_
  refine mw_cSI (g := fX6_within) dX6_attic_3 ml_X6_50 mfX6_within (ok_X6_within) rfl rfl (Nat.le_of_ble_eq_true rfl) ⟨by decide, by decide⟩ ⟨by decide, by decide⟩ ?_
  refine mw_if_eqB (tgt := 26) dX6_attic_6 (by decide) (fun h6 => ?_) (fun h6 => ?_)
  · skip
    refine mw_ldc dX6_attic_26 cn_X6_58 ?_
    exact mw_iret dX6_attic_28 rfl (by decide) (by decide) (by rw [sAttic, if_neg (by grind)]; exact ⟨rfl, rfl, hA, Fr1.rf _ _⟩)
  · skip
    refine mw_iload_n dX6_attic_9 rfl ?_
    refine mw_cSI (g := fX6_isBearing) dX6_attic_10 ml_X6_54 mfX6_isBearing (ok_X6_isBearing) rfl rfl (Nat.le_of_ble_eq_true rfl) ⟨by decide, by decide⟩ ⟨by decide, by decide⟩ ?_
    refine mw_if_eqB (tgt := 26) dX6_attic_13 (by decide) (fun h13 => ?_) (fun h13 => ?_)
    · skip
      refine mw_ldc dX6_attic_26 cn_X6_58 ?_
      exact mw_iret dX6_attic_28 rfl (by decide) (by decide) (by rw [sAttic, if_neg (by grind)]; exact ⟨rfl, rfl, hA, Fr1.rf _ _⟩)
    · skip
      refine mw_iload_n dX6_attic_16 rfl ?_
      refine mw_iconst (v := 1) dX6_attic_17 (by decide) ?_
      refine mw_bipush (v := 12) dX6_attic_18 (by decide) ?_
      refine mw_cSI (g := fX6_within) dX6_attic_20 ml_X6_50 mfX6_within (ok_X6_within) rfl rfl (Nat.le_of_ble_eq_true rfl) ⟨by decide, by decide⟩ ⟨by decide, by decide⟩ ?_
      refine mw_if_neB (tgt := 29) dX6_attic_23 (by decide) (fun h23 => ?_) (fun h23 => ?_)
      · skip
        refine mw_aload_n dX6_attic_29 rfl ?_
        refine mw_getr dX6_attic_30 fl_X6_10 rfl (by assumption) (by assumption) ?_
        refine mw_iload_n dX6_attic_33 rfl ?_
        refine mw_iload_n dX6_attic_34 rfl ?_
        refine mw_iload_n dX6_attic_35 rfl ?_
        refine mw_callV (g := fX5_addAttic) dX6_attic_36 ml_X6_59 mfX5_addAttic (ok_X5_addAttic t_now hn8 hA hn) (t_now.1) rfl rfl (Nat.le_of_ble_eq_true rfl) ⟨by decide, by decide⟩ ⟨by decide, by decide⟩ (fun r S2 mi2 hp => ?_)
        obtain ⟨e1, ⟨h8, rfl, e2⟩ | ⟨h8, rfl, e2, e3⟩⟩ := hp
        · rw [e1, e2]
          exact mw_iret dX6_attic_39 rfl (by decide) (by decide) (by rw [sAttic, if_pos ⟨h6, h13, h23⟩, if_pos h8]; exact ⟨rfl, rfl, hA, Fr1.rf _ _⟩)
        rw [e1]
        exact mw_iret dX6_attic_39 rfl (by decide) (by decide) (by rw [sAttic, if_pos ⟨h6, h13, h23⟩, if_neg (by omega)]; exact ⟨rfl, rfl, e2, Fr1.of e3⟩)
      · skip
        refine mw_ldc dX6_attic_26 cn_X6_58 ?_
        exact mw_iret dX6_attic_28 rfl (by decide) (by decide) (by rw [sAttic, if_neg (by grind)]; exact ⟨rfl, rfl, hA, Fr1.rf _ _⟩)
def sTold (lw : LawT) (A : Nat → Int32) (n : Nat) (v w : Int32) : Int32 := if 0 ≤ v ∧ v ≤ nI n - 1 then (if w = 0 then A (26 + 5 * v.toNatClampNeg) else if w = 1 then A (26 + 5 * v.toNatClampNeg + 1) else if w = 2 then A (26 + 5 * v.toNatClampNeg + 2) else if w = 3 then A (26 + 5 * v.toNatClampNeg + 3) else if w = 4 then A (26 + 5 * v.toNatClampNeg + 4) else if w = 5 then sWide (A 2) (A (26 + 5 * v.toNatClampNeg)) (A (26 + 5 * v.toNatClampNeg + 2)) else if w = 6 then rSee A v.toNatClampNeg else if w = 7 then rRent lw A v.toNatClampNeg else BADi) else BADi
theorem dX6_told_0 : decode fX6_told.2.1 0 = .ok (.aload_n 0, 1) := by decide +kernel
theorem dX6_told_1 : decode fX6_told.2.1 1 = .ok (.iload_n 1, 1) := by decide +kernel
theorem dX6_told_2 : decode fX6_told.2.1 2 = .ok (.invokevirtual 63, 3) := by decide +kernel
theorem dX6_told_5 : decode fX6_told.2.1 5 = .ok (.ifCond .ne 6, 3) := by decide +kernel
theorem dX6_told_8 : decode fX6_told.2.1 8 = .ok (.ldc 58, 2) := by decide +kernel
theorem dX6_told_10 : decode fX6_told.2.1 10 = .ok (.ireturn, 1) := by decide +kernel
theorem dX6_told_11 : decode fX6_told.2.1 11 = .ok (.aload_n 0, 1) := by decide +kernel
theorem dX6_told_12 : decode fX6_told.2.1 12 = .ok (.getfield 10, 3) := by decide +kernel
theorem dX6_told_15 : decode fX6_told.2.1 15 = .ok (.getfield 66, 3) := by decide +kernel
theorem dX6_told_18 : decode fX6_told.2.1 18 = .ok (.iload_n 1, 1) := by decide +kernel
theorem dX6_told_19 : decode fX6_told.2.1 19 = .ok (.aaload, 1) := by decide +kernel
theorem dX6_told_20 : decode fX6_told.2.1 20 = .ok (.astore_n 3, 1) := by decide +kernel
theorem dX6_told_21 : decode fX6_told.2.1 21 = .ok (.iload_n 2, 1) := by decide +kernel
theorem dX6_told_22 : decode fX6_told.2.1 22 = .ok (.tableswitch 98 0 7 #[46, 51, 56, 61, 66, 71, 80, 89], 46) := by decide +kernel
theorem dX6_told_68 : decode fX6_told.2.1 68 = .ok (.aload_n 3, 1) := by decide +kernel
theorem dX6_told_69 : decode fX6_told.2.1 69 = .ok (.getfield 70, 3) := by decide +kernel
theorem dX6_told_72 : decode fX6_told.2.1 72 = .ok (.ireturn, 1) := by decide +kernel
theorem dX6_told_73 : decode fX6_told.2.1 73 = .ok (.aload_n 3, 1) := by decide +kernel
theorem dX6_told_74 : decode fX6_told.2.1 74 = .ok (.getfield 76, 3) := by decide +kernel
theorem dX6_told_77 : decode fX6_told.2.1 77 = .ok (.ireturn, 1) := by decide +kernel
theorem dX6_told_78 : decode fX6_told.2.1 78 = .ok (.aload_n 3, 1) := by decide +kernel
theorem dX6_told_79 : decode fX6_told.2.1 79 = .ok (.getfield 79, 3) := by decide +kernel
theorem dX6_told_82 : decode fX6_told.2.1 82 = .ok (.ireturn, 1) := by decide +kernel
theorem dX6_told_83 : decode fX6_told.2.1 83 = .ok (.aload_n 3, 1) := by decide +kernel
theorem dX6_told_84 : decode fX6_told.2.1 84 = .ok (.getfield 82, 3) := by decide +kernel
theorem dX6_told_87 : decode fX6_told.2.1 87 = .ok (.ireturn, 1) := by decide +kernel
theorem dX6_told_88 : decode fX6_told.2.1 88 = .ok (.aload_n 3, 1) := by decide +kernel
theorem dX6_told_89 : decode fX6_told.2.1 89 = .ok (.getfield 85, 3) := by decide +kernel
theorem dX6_told_92 : decode fX6_told.2.1 92 = .ok (.ireturn, 1) := by decide +kernel
theorem dX6_told_93 : decode fX6_told.2.1 93 = .ok (.aload_n 0, 1) := by decide +kernel
theorem dX6_told_94 : decode fX6_told.2.1 94 = .ok (.getfield 10, 3) := by decide +kernel
theorem dX6_told_97 : decode fX6_told.2.1 97 = .ok (.aload_n 3, 1) := by decide +kernel
theorem dX6_told_98 : decode fX6_told.2.1 98 = .ok (.invokevirtual 88, 3) := by decide +kernel
theorem dX6_told_101 : decode fX6_told.2.1 101 = .ok (.ireturn, 1) := by decide +kernel
theorem dX6_told_102 : decode fX6_told.2.1 102 = .ok (.aload_n 0, 1) := by decide +kernel
theorem dX6_told_103 : decode fX6_told.2.1 103 = .ok (.getfield 10, 3) := by decide +kernel
theorem dX6_told_106 : decode fX6_told.2.1 106 = .ok (.aload_n 3, 1) := by decide +kernel
theorem dX6_told_107 : decode fX6_told.2.1 107 = .ok (.invokevirtual 92, 3) := by decide +kernel
theorem dX6_told_110 : decode fX6_told.2.1 110 = .ok (.ireturn, 1) := by decide +kernel
theorem dX6_told_111 : decode fX6_told.2.1 111 = .ok (.aload_n 0, 1) := by decide +kernel
theorem dX6_told_112 : decode fX6_told.2.1 112 = .ok (.getfield 10, 3) := by decide +kernel
theorem dX6_told_115 : decode fX6_told.2.1 115 = .ok (.aload_n 3, 1) := by decide +kernel
theorem dX6_told_116 : decode fX6_told.2.1 116 = .ok (.invokevirtual 95, 3) := by decide +kernel
theorem dX6_told_119 : decode fX6_told.2.1 119 = .ok (.ireturn, 1) := by decide +kernel
theorem dX6_told_120 : decode fX6_told.2.1 120 = .ok (.ldc 58, 2) := by decide +kernel
theorem dX6_told_122 : decode fX6_told.2.1 122 = .ok (.ireturn, 1) := by decide +kernel
set_option maxRecDepth 100000 in
set_option maxHeartbeats 4000000 in
theorem ok_X6_told {X : Xb} {S : Sg} {mi : Mem} {x n : Nat} {A : Nat → Int32} {lw : LawT} {v w : Int32} (hX : AsA S x) (hn8 : n ≤ 8) (hA : eqOn (26 + 5 * n) (tv mi (x + 1)) A) (hn : A 1 = nI n) (hx : TxOk S mi (x + 1) 0) (hl : lwC S mi (x + 1) 0 = lw) : Ok 4 0 0 fX6_told X [rf X x, .int v, .int w] S mi (PS S mi x (sTold lw A n v w, A, n)) := by
  refine Ok.go [some (rf X x), some (.int v), some (.int w), none] (by decide) (by simp [Value.category]) (Nat.le_of_ble_eq_true rfl) rfl ?_
  obtain ⟨k_x, ⟨r_x_now, t_now⟩, ⟨r_x_thought, t_thought⟩, ⟨r_x_image, t_image⟩, ⟨r_x_tape, t_tape⟩, ⟨r_x_sheets, k_x_sheets⟩, ⟨r_x_slots, k_x_slots⟩, ⟨r_x_waiting, k_x_waiting⟩, ⟨r_x_diff, k_x_diff⟩, a_sheets, a_slots⟩ := id hX
  obtain ⟨k_t, ⟨r_t_home, k_t_home⟩, ⟨r_t_price, k_t_price⟩, ⟨r_t_attics, k_t_attics⟩, ⟨r_t_texts, k_t_texts⟩, ⟨r_t_counting, k_t_counting⟩, ⟨r_t_names, k_t_names⟩, ⟨r_t_pile, k_t_pile⟩, ⟨r_t_views, k_t_views⟩, a_t⟩ := id t_now
  have ec : mi (x + 1) 3 = nI n := by rw [show (3 : Nat) = tvF 1 from rfl, tv_0 hA (by decide) (by omega), hn]
  have z := Fr1.rf (x + 1) mi
  refine mw_aload_n dX6_told_0 rfl ?_
  refine mw_iload_n dX6_told_1 rfl ?_
  refine mw_cVI (g := fX6_isAttic) dX6_told_2 ml_X6_63 mfX6_isAttic (ok_X6_isAttic hX ec) (by assumption) rfl rfl (Nat.le_of_ble_eq_true rfl) ⟨by decide, by decide⟩ ⟨by decide, by decide⟩ ?_
  refine mw_if_neB (tgt := 11) dX6_told_5 (by decide) (fun h5 => ?_) (fun h5 => ?_)
  · skip
    obtain ⟨a, han, rfl⟩ := inAt h5 hn8
    have hka := (a_t a (by omega)).2
    have ecl : (nI a).toNatClampNeg = a := nI_clamp (by omega)
    have eq0 := tv_A (a := a) (f := 0) hA (by decide) (by omega)
    have eq1 := tv_A (a := a) (f := 1) hA (by decide) (by omega)
    have eq2 := tv_A (a := a) (f := 2) hA (by decide) (by omega)
    have eq3 := tv_A (a := a) (f := 3) hA (by decide) (by omega)
    have eq4 := tv_A (a := a) (f := 4) hA (by decide) (by omega)
    have e10 : mi (x + 1) 10 = A 2 := tv_0 (j := 2) hA (by decide) (by omega)
    refine mw_aload_n dX6_told_11 rfl ?_
    refine mw_getr dX6_told_12 fl_X6_10 rfl (by assumption) (by assumption) ?_
    refine mw_getr dX6_told_15 fl_X6_66 rfl (by assumption) (by assumption) ?_
    refine mw_iload_n dX6_told_18 rfl ?_
    refine mw_aldK (k := a) dX6_told_19 (by assumption) (by decide) (rfl) (by omega) (by decide) ((a_t a (by omega)).1) ?_
    refine mw_astN 3 dX6_told_20 rfl (by decide) ?_
    refine mw_iload_n dX6_told_21 rfl ?_
    refine mw_ts1 dX6_told_22 (by decide) 0 68 (by decide) (fun h22_0 => ?_) (fun h22_0 => ?_)
    · skip
      refine mw_aload_n dX6_told_68 rfl ?_
      refine mw_geti dX6_told_69 fl_X6_70 rfl (by assumption) ?_
      exact mw_iret dX6_told_72 rfl (by decide) (by decide) (⟨by simp only [sTold, if_pos h5, ecl]; first | simp_all | (rw [show cSees (mi (x + 1 + 1)) (mi (x + 1) 10) (mi (x + 1) 4) (mi (x + 1 + 9 + a) 0) (mi (x + 1 + 9 + a) 1) (mi (x + 1 + 9 + a) 2) = rSee A a from rSee_of hA (by omega)]; simp_all), rfl, hA, z⟩)
    refine mw_ts1 dX6_told_22 (by decide) 1 73 (by decide) (fun h22_1 => ?_) (fun h22_1 => ?_)
    · skip
      refine mw_aload_n dX6_told_73 rfl ?_
      refine mw_geti dX6_told_74 fl_X6_76 rfl (by assumption) ?_
      exact mw_iret dX6_told_77 rfl (by decide) (by decide) (⟨by simp only [sTold, if_pos h5, ecl]; first | simp_all | (rw [show cSees (mi (x + 1 + 1)) (mi (x + 1) 10) (mi (x + 1) 4) (mi (x + 1 + 9 + a) 0) (mi (x + 1 + 9 + a) 1) (mi (x + 1 + 9 + a) 2) = rSee A a from rSee_of hA (by omega)]; simp_all), rfl, hA, z⟩)
    refine mw_ts1 dX6_told_22 (by decide) 2 78 (by decide) (fun h22_2 => ?_) (fun h22_2 => ?_)
    · skip
      refine mw_aload_n dX6_told_78 rfl ?_
      refine mw_geti dX6_told_79 fl_X6_79 rfl (by assumption) ?_
      exact mw_iret dX6_told_82 rfl (by decide) (by decide) (⟨by simp only [sTold, if_pos h5, ecl]; first | simp_all | (rw [show cSees (mi (x + 1 + 1)) (mi (x + 1) 10) (mi (x + 1) 4) (mi (x + 1 + 9 + a) 0) (mi (x + 1 + 9 + a) 1) (mi (x + 1 + 9 + a) 2) = rSee A a from rSee_of hA (by omega)]; simp_all), rfl, hA, z⟩)
    refine mw_ts1 dX6_told_22 (by decide) 3 83 (by decide) (fun h22_3 => ?_) (fun h22_3 => ?_)
    · skip
      refine mw_aload_n dX6_told_83 rfl ?_
      refine mw_geti dX6_told_84 fl_X6_82 rfl (by assumption) ?_
      exact mw_iret dX6_told_87 rfl (by decide) (by decide) (⟨by simp only [sTold, if_pos h5, ecl]; first | simp_all | (rw [show cSees (mi (x + 1 + 1)) (mi (x + 1) 10) (mi (x + 1) 4) (mi (x + 1 + 9 + a) 0) (mi (x + 1 + 9 + a) 1) (mi (x + 1 + 9 + a) 2) = rSee A a from rSee_of hA (by omega)]; simp_all), rfl, hA, z⟩)
    refine mw_ts1 dX6_told_22 (by decide) 4 88 (by decide) (fun h22_4 => ?_) (fun h22_4 => ?_)
    · skip
      refine mw_aload_n dX6_told_88 rfl ?_
      refine mw_geti dX6_told_89 fl_X6_85 rfl (by assumption) ?_
      exact mw_iret dX6_told_92 rfl (by decide) (by decide) (⟨by simp only [sTold, if_pos h5, ecl]; first | simp_all | (rw [show cSees (mi (x + 1 + 1)) (mi (x + 1) 10) (mi (x + 1) 4) (mi (x + 1 + 9 + a) 0) (mi (x + 1 + 9 + a) 1) (mi (x + 1 + 9 + a) 2) = rSee A a from rSee_of hA (by omega)]; simp_all), rfl, hA, z⟩)
    refine mw_ts1 dX6_told_22 (by decide) 5 93 (by decide) (fun h22_5 => ?_) (fun h22_5 => ?_)
    · skip
      refine mw_aload_n dX6_told_93 rfl ?_
      refine mw_getr dX6_told_94 fl_X6_10 rfl (by assumption) (by assumption) ?_
      refine mw_aload_n dX6_told_97 rfl ?_
      refine mw_cVI (g := fX5_wideOf) dX6_told_98 ml_X6_88 mfX5_wideOf (ok_X5_wideOf t_now hka) (by assumption) rfl rfl (Nat.le_of_ble_eq_true rfl) ⟨by decide, by decide⟩ ⟨by decide, by decide⟩ ?_
      exact mw_iret dX6_told_101 rfl (by decide) (by decide) (⟨by simp only [sTold, if_pos h5, ecl]; first | simp_all | (rw [show cSees (mi (x + 1 + 1)) (mi (x + 1) 10) (mi (x + 1) 4) (mi (x + 1 + 9 + a) 0) (mi (x + 1 + 9 + a) 1) (mi (x + 1 + 9 + a) 2) = rSee A a from rSee_of hA (by omega)]; simp_all), rfl, hA, z⟩)
    refine mw_ts1 dX6_told_22 (by decide) 6 102 (by decide) (fun h22_6 => ?_) (fun h22_6 => ?_)
    · skip
      refine mw_aload_n dX6_told_102 rfl ?_
      refine mw_getr dX6_told_103 fl_X6_10 rfl (by assumption) (by assumption) ?_
      refine mw_aload_n dX6_told_106 rfl ?_
      refine mw_cVI (g := fX5_seenBy) dX6_told_107 ml_X6_92 mfX5_seenBy (ok_X5_seenBy t_now hka) (by assumption) rfl rfl (Nat.le_of_ble_eq_true rfl) ⟨by decide, by decide⟩ ⟨by decide, by decide⟩ ?_
      exact mw_iret dX6_told_110 rfl (by decide) (by decide) (⟨by have e := rSee_of (a := a) hA (by omega); unfold cSeesQ at e; rw [e]; simp only [sTold, if_pos h5, ecl, h22_6]; simp, rfl, hA, z⟩)
    refine mw_ts1 dX6_told_22 (by decide) 7 111 (by decide) (fun h22_7 => ?_) (fun h22_7 => ?_)
    · skip
      refine mw_aload_n dX6_told_111 rfl ?_
      refine mw_getr dX6_told_112 fl_X6_10 rfl (by assumption) (by assumption) ?_
      refine mw_aload_n dX6_told_115 rfl ?_
      refine mw_callV (g := fX5_rentOf) dX6_told_116 ml_X6_95 mfX5_rentOf (ok_rentOf t_now hka hx) (by assumption) rfl rfl (Nat.le_of_ble_eq_true rfl) ⟨by decide, by decide⟩ ⟨by decide, by decide⟩ (fun r S2 mi2 hp => ?_)
      obtain ⟨rfl, e1, hs⟩ := hp
      rw [e1, cRent_of hA (by omega), hl]
      exact mw_iret dX6_told_119 rfl (by decide) (by decide) (by simp only [sTold, if_pos h5, ecl]; simp only [*]; exact ⟨by simp, rfl, tv_scr hs hA, Fr1.of (Frt.scr hs)⟩)
    refine mw_ts0 dX6_told_22 (by decide) 120 (by decide) (by have e0 := ne_toI (n := 0) (by decide) h22_0; have e1 := ne_toI (n := 1) (by decide) h22_1; have e2 := ne_toI (n := 2) (by decide) h22_2; have e3 := ne_toI (n := 3) (by decide) h22_3; have e4 := ne_toI (n := 4) (by decide) h22_4; have e5 := ne_toI (n := 5) (by decide) h22_5; have e6 := ne_toI (n := 6) (by decide) h22_6; have e7 := ne_toI (n := 7) (by decide) h22_7; omega) ?_
    refine mw_ldc dX6_told_120 cn_X6_58 ?_
    exact mw_iret dX6_told_122 rfl (by decide) (by decide) (⟨by simp only [sTold, if_pos h5, ecl]; first | simp_all | (rw [show cSees (mi (x + 1 + 1)) (mi (x + 1) 10) (mi (x + 1) 4) (mi (x + 1 + 9 + a) 0) (mi (x + 1 + 9 + a) 1) (mi (x + 1 + 9 + a) 2) = rSee A a from rSee_of hA (by omega)]; simp_all), rfl, hA, z⟩)
  · skip
    refine mw_ldc dX6_told_8 cn_X6_58 ?_
    exact mw_iret dX6_told_10 rfl (by decide) (by decide) (by rw [sTold, if_neg h5]; exact ⟨rfl, rfl, hA, z⟩)
def sAs (A : Nat → Int32) (n : Nat) (v k : Int32) : Int32 := if (0 ≤ v ∧ v ≤ nI n - 1) ∧ (0 ≤ k ∧ k ≤ 5) then (if isoB (A (26 + 5 * v.toNatClampNeg)) k then A (26 + 5 * v.toNatClampNeg + 3) else KINDi) else BADi
def inK (A : Nat → Int32) (n : Nat) : Prop := ∀ a, a < n → ∃ c, c < 6 ∧ A (26 + 5 * a) = nI c
theorem dX6_as_0 : decode fX6_as.2.1 0 = .ok (.aload_n 0, 1) := by decide +kernel
theorem dX6_as_1 : decode fX6_as.2.1 1 = .ok (.iload_n 1, 1) := by decide +kernel
theorem dX6_as_2 : decode fX6_as.2.1 2 = .ok (.invokevirtual 63, 3) := by decide +kernel
theorem dX6_as_5 : decode fX6_as.2.1 5 = .ok (.ifCond .eq 12, 3) := by decide +kernel
theorem dX6_as_8 : decode fX6_as.2.1 8 = .ok (.iload_n 2, 1) := by decide +kernel
theorem dX6_as_9 : decode fX6_as.2.1 9 = .ok (.iconst 0, 1) := by decide +kernel
theorem dX6_as_10 : decode fX6_as.2.1 10 = .ok (.iconst 5, 1) := by decide +kernel
theorem dX6_as_11 : decode fX6_as.2.1 11 = .ok (.invokestatic 50, 3) := by decide +kernel
theorem dX6_as_14 : decode fX6_as.2.1 14 = .ok (.ifCond .ne 6, 3) := by decide +kernel
theorem dX6_as_17 : decode fX6_as.2.1 17 = .ok (.ldc 58, 2) := by decide +kernel
theorem dX6_as_19 : decode fX6_as.2.1 19 = .ok (.ireturn, 1) := by decide +kernel
theorem dX6_as_20 : decode fX6_as.2.1 20 = .ok (.aload_n 0, 1) := by decide +kernel
theorem dX6_as_21 : decode fX6_as.2.1 21 = .ok (.getfield 10, 3) := by decide +kernel
theorem dX6_as_24 : decode fX6_as.2.1 24 = .ok (.getfield 66, 3) := by decide +kernel
theorem dX6_as_27 : decode fX6_as.2.1 27 = .ok (.iload_n 1, 1) := by decide +kernel
theorem dX6_as_28 : decode fX6_as.2.1 28 = .ok (.aaload, 1) := by decide +kernel
theorem dX6_as_29 : decode fX6_as.2.1 29 = .ok (.astore_n 3, 1) := by decide +kernel
theorem dX6_as_30 : decode fX6_as.2.1 30 = .ok (.aload_n 3, 1) := by decide +kernel
theorem dX6_as_31 : decode fX6_as.2.1 31 = .ok (.iload_n 2, 1) := by decide +kernel
theorem dX6_as_32 : decode fX6_as.2.1 32 = .ok (.invokevirtual 98, 3) := by decide +kernel
theorem dX6_as_35 : decode fX6_as.2.1 35 = .ok (.ifCond .eq 10, 3) := by decide +kernel
theorem dX6_as_38 : decode fX6_as.2.1 38 = .ok (.aload_n 3, 1) := by decide +kernel
theorem dX6_as_39 : decode fX6_as.2.1 39 = .ok (.getfield 82, 3) := by decide +kernel
theorem dX6_as_42 : decode fX6_as.2.1 42 = .ok (.goto 5, 3) := by decide +kernel
theorem dX6_as_45 : decode fX6_as.2.1 45 = .ok (.ldc 101, 2) := by decide +kernel
theorem dX6_as_47 : decode fX6_as.2.1 47 = .ok (.ireturn, 1) := by decide +kernel
set_option maxRecDepth 100000 in
set_option maxHeartbeats 4000000 in
theorem ok_X6_as {X : Xb} {S : Sg} {mi : Mem} {x n : Nat} {A : Nat → Int32} {v k : Int32} (hX : AsA S x) (hn8 : n ≤ 8) (hA : eqOn (26 + 5 * n) (tv mi (x + 1)) A) (hn : A 1 = nI n) (hk : inK A n) : Ok 2 0 0 fX6_as X [rf X x, .int v, .int k] S mi (PS S mi x (sAs A n v k, A, n)) := by
  refine Ok.go [some (rf X x), some (.int v), some (.int k), none] (by decide) (by simp [Value.category]) (Nat.le_of_ble_eq_true rfl) rfl ?_
  obtain ⟨k_x, ⟨r_x_now, t_now⟩, ⟨r_x_thought, t_thought⟩, ⟨r_x_image, t_image⟩, ⟨r_x_tape, t_tape⟩, ⟨r_x_sheets, k_x_sheets⟩, ⟨r_x_slots, k_x_slots⟩, ⟨r_x_waiting, k_x_waiting⟩, ⟨r_x_diff, k_x_diff⟩, a_sheets, a_slots⟩ := id hX
  obtain ⟨k_t, ⟨r_t_home, k_t_home⟩, ⟨r_t_price, k_t_price⟩, ⟨r_t_attics, k_t_attics⟩, ⟨r_t_texts, k_t_texts⟩, ⟨r_t_counting, k_t_counting⟩, ⟨r_t_names, k_t_names⟩, ⟨r_t_pile, k_t_pile⟩, ⟨r_t_views, k_t_views⟩, a_t⟩ := id t_now
  have ec : mi (x + 1) 3 = nI n := by rw [show (3 : Nat) = tvF 1 from rfl, tv_0 hA (by decide) (by omega), hn]
  have z := Fr1.rf (x + 1) mi
  refine mw_aload_n dX6_as_0 rfl ?_
  refine mw_iload_n dX6_as_1 rfl ?_
  refine mw_cVI (g := fX6_isAttic) dX6_as_2 ml_X6_63 mfX6_isAttic (ok_X6_isAttic hX ec) (by assumption) rfl rfl (Nat.le_of_ble_eq_true rfl) ⟨by decide, by decide⟩ ⟨by decide, by decide⟩ ?_
  refine mw_if_eqB (tgt := 17) dX6_as_5 (by decide) (fun h5 => ?_) (fun h5 => ?_)
  · skip
    refine mw_ldc dX6_as_17 cn_X6_58 ?_
    exact mw_iret dX6_as_19 rfl (by decide) (by decide) (by rw [sAs, if_neg (by grind)]; exact ⟨rfl, rfl, hA, z⟩)
  · skip
    refine mw_iload_n dX6_as_8 rfl ?_
    refine mw_iconst (v := 0) dX6_as_9 (by decide) ?_
    refine mw_iconst (v := 5) dX6_as_10 (by decide) ?_
    refine mw_cSI (g := fX6_within) dX6_as_11 ml_X6_50 mfX6_within (ok_X6_within) rfl rfl (Nat.le_of_ble_eq_true rfl) ⟨by decide, by decide⟩ ⟨by decide, by decide⟩ ?_
    refine mw_if_neB (tgt := 20) dX6_as_14 (by decide) (fun h14 => ?_) (fun h14 => ?_)
    · skip
      obtain ⟨a, han, rfl⟩ := inAt h5 hn8
      have hka := (a_t a (by omega)).2
      have ecl : (nI a).toNatClampNeg = a := nI_clamp (by omega)
      obtain ⟨c, hc6, hc⟩ := hk a han
      have eq0 : mi (x + 1 + 9 + a) 0 = nI c := (tv_A (a := a) (f := 0) hA (by decide) (by omega)).trans hc
      have eq3 := tv_A (a := a) (f := 3) hA (by decide) (by omega)
      refine mw_aload_n dX6_as_20 rfl ?_
      refine mw_getr dX6_as_21 fl_X6_10 rfl (by assumption) (by assumption) ?_
      refine mw_getr dX6_as_24 fl_X6_66 rfl (by assumption) (by assumption) ?_
      refine mw_iload_n dX6_as_27 rfl ?_
      refine mw_aldK (k := a) dX6_as_28 (by assumption) (by decide) (rfl) (by omega) (by decide) ((a_t a (by omega)).1) ?_
      refine mw_astN 3 dX6_as_29 rfl (by decide) ?_
      refine mw_aload_n dX6_as_30 rfl ?_
      refine mw_iload_n dX6_as_31 rfl ?_
      refine mw_cVI (g := fX0_isOf) dX6_as_32 ml_X6_98 mfX0_isOf (ok_X0_isOf (R := isoB (nI c) k) hka eq0 hc6 (isoB_iff hc6)) (hka) rfl rfl (Nat.le_of_ble_eq_true rfl) ⟨by decide, by decide⟩ ⟨by decide, by decide⟩ ?_
      refine mw_if_eqB (tgt := 45) dX6_as_35 (by decide) (fun h35 => ?_) (fun h35 => ?_)
      · skip
        refine mw_ldc dX6_as_45 cn_X6_101 ?_
        exact mw_iret dX6_as_47 rfl (by decide) (by decide) (by simp only [sAs, if_pos (And.intro h5 h14), ecl, hc, h35]; first | exact ⟨by rw [eq3]; simp, rfl, hA, z⟩ | exact ⟨by simp, rfl, hA, z⟩)
      · skip
        refine mw_aload_n dX6_as_38 rfl ?_
        refine mw_geti dX6_as_39 fl_X6_82 rfl (by assumption) ?_
        refine mw_goto (tgt := 47) dX6_as_42 (by decide) ?_
        exact mw_iret dX6_as_47 rfl (by decide) (by decide) (by simp only [sAs, if_pos (And.intro h5 h14), ecl, hc, h35]; first | exact ⟨by rw [eq3]; simp, rfl, hA, z⟩ | exact ⟨by simp, rfl, hA, z⟩)
    · skip
      refine mw_ldc dX6_as_17 cn_X6_58 ?_
      exact mw_iret dX6_as_19 rfl (by decide) (by decide) (by rw [sAs, if_neg (by grind)]; exact ⟨rfl, rfl, hA, z⟩)
