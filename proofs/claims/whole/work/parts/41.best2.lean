/-! turned, stands, becomes -/
theorem in160 {v : Int32} (h : 1 ≤ v ∧ v ≤ 60) : ∃ q, q ≤ 60 ∧ v = nI q := by
  obtain ⟨q, h1, h2⟩ := in0100 (v := v) ⟨Int32.le_trans (by decide) h.1, Int32.le_trans h.2 (by decide)⟩
  subst h2
  refine ⟨q, ?_, rfl⟩
  rcases Nat.lt_or_ge 60 q with g | g
  · exact absurd h.2 (Int32.not_le.mpr (nI_lt (a := 60) g (by omega)))
  · exact g
def sTurned (lw : LawT) (A : Nat → Int32) (n : Nat) (v q w : Int32) : Int32 := if (0 ≤ v ∧ v ≤ nI n - 1) ∧ (1 ≤ q ∧ q ≤ 60) ∧ (0 ≤ w ∧ w ≤ 1) then sBest lw A n 0 v.toNatClampNeg q.toNatClampNeg w else BADi
theorem dX6_turned_0 : decode fX6_turned.2.1 0 = .ok (.aload_n 0, 1) := by decide +kernel
theorem dX6_turned_1 : decode fX6_turned.2.1 1 = .ok (.iload_n 1, 1) := by decide +kernel
theorem dX6_turned_2 : decode fX6_turned.2.1 2 = .ok (.invokevirtual 63, 3) := by decide +kernel
theorem dX6_turned_5 : decode fX6_turned.2.1 5 = .ok (.ifCond .eq 22, 3) := by decide +kernel
theorem dX6_turned_8 : decode fX6_turned.2.1 8 = .ok (.iload_n 2, 1) := by decide +kernel
theorem dX6_turned_9 : decode fX6_turned.2.1 9 = .ok (.iconst 1, 1) := by decide +kernel
theorem dX6_turned_10 : decode fX6_turned.2.1 10 = .ok (.bipush 60, 2) := by decide +kernel
theorem dX6_turned_12 : decode fX6_turned.2.1 12 = .ok (.invokestatic 50, 3) := by decide +kernel
theorem dX6_turned_15 : decode fX6_turned.2.1 15 = .ok (.ifCond .eq 12, 3) := by decide +kernel
theorem dX6_turned_18 : decode fX6_turned.2.1 18 = .ok (.iload_n 3, 1) := by decide +kernel
theorem dX6_turned_19 : decode fX6_turned.2.1 19 = .ok (.iconst 0, 1) := by decide +kernel
theorem dX6_turned_20 : decode fX6_turned.2.1 20 = .ok (.iconst 1, 1) := by decide +kernel
theorem dX6_turned_21 : decode fX6_turned.2.1 21 = .ok (.invokestatic 50, 3) := by decide +kernel
theorem dX6_turned_24 : decode fX6_turned.2.1 24 = .ok (.ifCond .ne 6, 3) := by decide +kernel
theorem dX6_turned_27 : decode fX6_turned.2.1 27 = .ok (.ldc 58, 2) := by decide +kernel
theorem dX6_turned_29 : decode fX6_turned.2.1 29 = .ok (.ireturn, 1) := by decide +kernel
theorem dX6_turned_30 : decode fX6_turned.2.1 30 = .ok (.aload_n 0, 1) := by decide +kernel
theorem dX6_turned_31 : decode fX6_turned.2.1 31 = .ok (.iconst 0, 1) := by decide +kernel
theorem dX6_turned_32 : decode fX6_turned.2.1 32 = .ok (.iload_n 1, 1) := by decide +kernel
theorem dX6_turned_33 : decode fX6_turned.2.1 33 = .ok (.iload_n 2, 1) := by decide +kernel
theorem dX6_turned_34 : decode fX6_turned.2.1 34 = .ok (.iload_n 3, 1) := by decide +kernel
theorem dX6_turned_35 : decode fX6_turned.2.1 35 = .ok (.invokevirtual 183, 3) := by decide +kernel
theorem dX6_turned_38 : decode fX6_turned.2.1 38 = .ok (.ireturn, 1) := by decide +kernel
set_option maxRecDepth 100000 in
set_option maxHeartbeats 4000000 in
theorem ok_X6_turned {X : Xb} {S : Sg} {mi : Mem} {x n : Nat} {A : Nat → Int32} {lw : LawT} {v q w : Int32} (hX : AsA S x) (hn8 : n ≤ 8) (hA : eqOn (26 + 5 * n) (tv mi (x + 1)) A) (hn : A 1 = nI n) (hx : TxOk S mi (x + 1) 0) (hl : lwC S mi (x + 1) 0 = lw) (hr : TxR S (x + 1)) : Ok 6 0 0 fX6_turned X [rf X x, .int v, .int q, .int w] S mi (PT S mi x (sTurned lw A n v q w)) := by
  refine Ok.go [some (rf X x), some (.int v), some (.int q), some (.int w)] (by decide) (by simp [Value.category]) (Nat.le_of_ble_eq_true rfl) rfl ?_
  obtain ⟨k_x, ⟨r_x_now, t_now⟩, ⟨r_x_thought, t_thought⟩, ⟨r_x_image, t_image⟩, ⟨r_x_tape, t_tape⟩, ⟨r_x_sheets, k_x_sheets⟩, ⟨r_x_slots, k_x_slots⟩, ⟨r_x_waiting, k_x_waiting⟩, ⟨r_x_diff, k_x_diff⟩, a_sheets, a_slots⟩ := id hX
  have ec : mi (x + 1) 3 = nI n := by rw [show (3 : Nat) = tvF 1 from rfl, tv_0 hA (by decide) (by omega), hn]
  have z : FrT x mi mi := fun _ _ => rfl
  have go : (0 ≤ v ∧ v ≤ nI n - 1) → (1 ≤ q ∧ q ≤ 60) → (0 ≤ w ∧ w ≤ 1) → Ok 5 0 0 fX6_bestOf X [rf X x, .int 0, .int v, .int q, .int w] S mi (PT S mi x (sTurned lw A n v q w)) := by
    intro g1 g2 g3
    rw [sTurned, if_pos ⟨g1, g2, g3⟩]
    obtain ⟨a, han, rfl⟩ := inAt g1 hn8
    obtain ⟨p, hp, rfl⟩ := in160 g2
    rw [nI_clamp (by omega), nI_clamp (by omega)]
    exact ok_X6_bestOf hX hn8 hA hn hx hl hr (Or.inr han) hp
  refine mw_aload_n dX6_turned_0 rfl ?_
  refine mw_iload_n dX6_turned_1 rfl ?_
  refine mw_cVI (g := fX6_isAttic) dX6_turned_2 ml_X6_63 mfX6_isAttic (ok_X6_isAttic hX ec) (by assumption) rfl rfl (Nat.le_of_ble_eq_true rfl) ⟨by decide, by decide⟩ ⟨by decide, by decide⟩ ?_
  refine mw_if_eqB (tgt := 27) dX6_turned_5 (by decide) (fun h5 => ?_) (fun h5 => ?_)
  · skip
    refine mw_ldc dX6_turned_27 cn_X6_58 ?_
    exact mw_iret dX6_turned_29 rfl (by decide) (by decide) (by rw [sTurned, if_neg (by grind)]; exact ⟨rfl, Or.inl rfl, z⟩)
  · skip
    refine mw_iload_n dX6_turned_8 rfl ?_
    refine mw_iconst (v := 1) dX6_turned_9 (by decide) ?_
    refine mw_bipush (v := 60) dX6_turned_10 (by decide) ?_
    refine mw_cSI (g := fX6_within) dX6_turned_12 ml_X6_50 mfX6_within (ok_X6_within) rfl rfl (Nat.le_of_ble_eq_true rfl) ⟨by decide, by decide⟩ ⟨by decide, by decide⟩ ?_
    refine mw_if_eqB (tgt := 27) dX6_turned_15 (by decide) (fun h15 => ?_) (fun h15 => ?_)
    · skip
      refine mw_ldc dX6_turned_27 cn_X6_58 ?_
      exact mw_iret dX6_turned_29 rfl (by decide) (by decide) (by rw [sTurned, if_neg (by grind)]; exact ⟨rfl, Or.inl rfl, z⟩)
    · skip
      refine mw_iload_n dX6_turned_18 rfl ?_
      refine mw_iconst (v := 0) dX6_turned_19 (by decide) ?_
      refine mw_iconst (v := 1) dX6_turned_20 (by decide) ?_
      refine mw_cSI (g := fX6_within) dX6_turned_21 ml_X6_50 mfX6_within (ok_X6_within) rfl rfl (Nat.le_of_ble_eq_true rfl) ⟨by decide, by decide⟩ ⟨by decide, by decide⟩ ?_
      refine mw_if_neB (tgt := 30) dX6_turned_24 (by decide) (fun h24 => ?_) (fun h24 => ?_)
      · skip
        refine mw_aload_n dX6_turned_30 rfl ?_
        refine mw_iconst (v := 0) dX6_turned_31 (by decide) ?_
        refine mw_iload_n dX6_turned_32 rfl ?_
        refine mw_iload_n dX6_turned_33 rfl ?_
        refine mw_iload_n dX6_turned_34 rfl ?_
        refine mw_callV (g := fX6_bestOf) dX6_turned_35 ml_X6_183 mfX6_bestOf (go h5 h15 h24) (by assumption) rfl rfl (Nat.le_of_ble_eq_true rfl) ⟨by decide, by decide⟩ ⟨by decide, by decide⟩ (fun r S2 mi2 hp => ?_)
        obtain ⟨rfl, e1, e2⟩ := hp
        exact mw_iret dX6_turned_38 rfl (by decide) (by decide) (⟨rfl, e1, e2⟩)
      · skip
        refine mw_ldc dX6_turned_27 cn_X6_58 ?_
        exact mw_iret dX6_turned_29 rfl (by decide) (by decide) (by rw [sTurned, if_neg (by grind)]; exact ⟨rfl, Or.inl rfl, z⟩)
def sBecomes (lw : LawT) (A : Nat → Int32) (n : Nat) (v q w : Int32) : Int32 := if (0 ≤ v ∧ v ≤ nI n - 1) ∧ (1 ≤ q ∧ q ≤ 60) ∧ (0 ≤ w ∧ w ≤ 1) then sBest lw A n 2 v.toNatClampNeg q.toNatClampNeg w else BADi
theorem dX6_becomes_0 : decode fX6_becomes.2.1 0 = .ok (.aload_n 0, 1) := by decide +kernel
theorem dX6_becomes_1 : decode fX6_becomes.2.1 1 = .ok (.iload_n 1, 1) := by decide +kernel
theorem dX6_becomes_2 : decode fX6_becomes.2.1 2 = .ok (.invokevirtual 63, 3) := by decide +kernel
theorem dX6_becomes_5 : decode fX6_becomes.2.1 5 = .ok (.ifCond .eq 22, 3) := by decide +kernel
theorem dX6_becomes_8 : decode fX6_becomes.2.1 8 = .ok (.iload_n 2, 1) := by decide +kernel
theorem dX6_becomes_9 : decode fX6_becomes.2.1 9 = .ok (.iconst 1, 1) := by decide +kernel
theorem dX6_becomes_10 : decode fX6_becomes.2.1 10 = .ok (.bipush 60, 2) := by decide +kernel
theorem dX6_becomes_12 : decode fX6_becomes.2.1 12 = .ok (.invokestatic 50, 3) := by decide +kernel
theorem dX6_becomes_15 : decode fX6_becomes.2.1 15 = .ok (.ifCond .eq 12, 3) := by decide +kernel
theorem dX6_becomes_18 : decode fX6_becomes.2.1 18 = .ok (.iload_n 3, 1) := by decide +kernel
theorem dX6_becomes_19 : decode fX6_becomes.2.1 19 = .ok (.iconst 0, 1) := by decide +kernel
theorem dX6_becomes_20 : decode fX6_becomes.2.1 20 = .ok (.iconst 1, 1) := by decide +kernel
theorem dX6_becomes_21 : decode fX6_becomes.2.1 21 = .ok (.invokestatic 50, 3) := by decide +kernel
theorem dX6_becomes_24 : decode fX6_becomes.2.1 24 = .ok (.ifCond .ne 6, 3) := by decide +kernel
theorem dX6_becomes_27 : decode fX6_becomes.2.1 27 = .ok (.ldc 58, 2) := by decide +kernel
theorem dX6_becomes_29 : decode fX6_becomes.2.1 29 = .ok (.ireturn, 1) := by decide +kernel
theorem dX6_becomes_30 : decode fX6_becomes.2.1 30 = .ok (.aload_n 0, 1) := by decide +kernel
theorem dX6_becomes_31 : decode fX6_becomes.2.1 31 = .ok (.iconst 2, 1) := by decide +kernel
theorem dX6_becomes_32 : decode fX6_becomes.2.1 32 = .ok (.iload_n 1, 1) := by decide +kernel
theorem dX6_becomes_33 : decode fX6_becomes.2.1 33 = .ok (.iload_n 2, 1) := by decide +kernel
theorem dX6_becomes_34 : decode fX6_becomes.2.1 34 = .ok (.iload_n 3, 1) := by decide +kernel
theorem dX6_becomes_35 : decode fX6_becomes.2.1 35 = .ok (.invokevirtual 183, 3) := by decide +kernel
theorem dX6_becomes_38 : decode fX6_becomes.2.1 38 = .ok (.ireturn, 1) := by decide +kernel
set_option maxRecDepth 100000 in
set_option maxHeartbeats 4000000 in
theorem ok_X6_becomes {X : Xb} {S : Sg} {mi : Mem} {x n : Nat} {A : Nat → Int32} {lw : LawT} {v q w : Int32} (hX : AsA S x) (hn8 : n ≤ 8) (hA : eqOn (26 + 5 * n) (tv mi (x + 1)) A) (hn : A 1 = nI n) (hx : TxOk S mi (x + 1) 0) (hl : lwC S mi (x + 1) 0 = lw) (hr : TxR S (x + 1)) : Ok 6 0 0 fX6_becomes X [rf X x, .int v, .int q, .int w] S mi (PT S mi x (sBecomes lw A n v q w)) := by
  refine Ok.go [some (rf X x), some (.int v), some (.int q), some (.int w)] (by decide) (by simp [Value.category]) (Nat.le_of_ble_eq_true rfl) rfl ?_
  obtain ⟨k_x, ⟨r_x_now, t_now⟩, ⟨r_x_thought, t_thought⟩, ⟨r_x_image, t_image⟩, ⟨r_x_tape, t_tape⟩, ⟨r_x_sheets, k_x_sheets⟩, ⟨r_x_slots, k_x_slots⟩, ⟨r_x_waiting, k_x_waiting⟩, ⟨r_x_diff, k_x_diff⟩, a_sheets, a_slots⟩ := id hX
  have ec : mi (x + 1) 3 = nI n := by rw [show (3 : Nat) = tvF 1 from rfl, tv_0 hA (by decide) (by omega), hn]
  have z : FrT x mi mi := fun _ _ => rfl
  have go : (0 ≤ v ∧ v ≤ nI n - 1) → (1 ≤ q ∧ q ≤ 60) → (0 ≤ w ∧ w ≤ 1) → Ok 5 0 0 fX6_bestOf X [rf X x, .int 2, .int v, .int q, .int w] S mi (PT S mi x (sBecomes lw A n v q w)) := by
    intro g1 g2 g3
    rw [sBecomes, if_pos ⟨g1, g2, g3⟩]
    obtain ⟨a, han, rfl⟩ := inAt g1 hn8
    obtain ⟨p, hp, rfl⟩ := in160 g2
    rw [nI_clamp (by omega), nI_clamp (by omega)]
    exact ok_X6_bestOf hX hn8 hA hn hx hl hr (Or.inr han) hp
  refine mw_aload_n dX6_becomes_0 rfl ?_
  refine mw_iload_n dX6_becomes_1 rfl ?_
  refine mw_cVI (g := fX6_isAttic) dX6_becomes_2 ml_X6_63 mfX6_isAttic (ok_X6_isAttic hX ec) (by assumption) rfl rfl (Nat.le_of_ble_eq_true rfl) ⟨by decide, by decide⟩ ⟨by decide, by decide⟩ ?_
  refine mw_if_eqB (tgt := 27) dX6_becomes_5 (by decide) (fun h5 => ?_) (fun h5 => ?_)
  · skip
    refine mw_ldc dX6_becomes_27 cn_X6_58 ?_
    exact mw_iret dX6_becomes_29 rfl (by decide) (by decide) (by rw [sBecomes, if_neg (by grind)]; exact ⟨rfl, Or.inl rfl, z⟩)
  · skip
    refine mw_iload_n dX6_becomes_8 rfl ?_
    refine mw_iconst (v := 1) dX6_becomes_9 (by decide) ?_
    refine mw_bipush (v := 60) dX6_becomes_10 (by decide) ?_
    refine mw_cSI (g := fX6_within) dX6_becomes_12 ml_X6_50 mfX6_within (ok_X6_within) rfl rfl (Nat.le_of_ble_eq_true rfl) ⟨by decide, by decide⟩ ⟨by decide, by decide⟩ ?_
    refine mw_if_eqB (tgt := 27) dX6_becomes_15 (by decide) (fun h15 => ?_) (fun h15 => ?_)
    · skip
      refine mw_ldc dX6_becomes_27 cn_X6_58 ?_
      exact mw_iret dX6_becomes_29 rfl (by decide) (by decide) (by rw [sBecomes, if_neg (by grind)]; exact ⟨rfl, Or.inl rfl, z⟩)
    · skip
      refine mw_iload_n dX6_becomes_18 rfl ?_
      refine mw_iconst (v := 0) dX6_becomes_19 (by decide) ?_
      refine mw_iconst (v := 1) dX6_becomes_20 (by decide) ?_
      refine mw_cSI (g := fX6_within) dX6_becomes_21 ml_X6_50 mfX6_within (ok_X6_within) rfl rfl (Nat.le_of_ble_eq_true rfl) ⟨by decide, by decide⟩ ⟨by decide, by decide⟩ ?_
      refine mw_if_neB (tgt := 30) dX6_becomes_24 (by decide) (fun h24 => ?_) (fun h24 => ?_)
      · skip
        refine mw_aload_n dX6_becomes_30 rfl ?_
        refine mw_iconst (v := 2) dX6_becomes_31 (by decide) ?_
        refine mw_iload_n dX6_becomes_32 rfl ?_
        refine mw_iload_n dX6_becomes_33 rfl ?_
        refine mw_iload_n dX6_becomes_34 rfl ?_
        refine mw_callV (g := fX6_bestOf) dX6_becomes_35 ml_X6_183 mfX6_bestOf (go h5 h15 h24) (by assumption) rfl rfl (Nat.le_of_ble_eq_true rfl) ⟨by decide, by decide⟩ ⟨by decide, by decide⟩ (fun r S2 mi2 hp => ?_)
        obtain ⟨rfl, e1, e2⟩ := hp
        exact mw_iret dX6_becomes_38 rfl (by decide) (by decide) (⟨rfl, e1, e2⟩)
      · skip
        refine mw_ldc dX6_becomes_27 cn_X6_58 ?_
        exact mw_iret dX6_becomes_29 rfl (by decide) (by decide) (by rw [sBecomes, if_neg (by grind)]; exact ⟨rfl, Or.inl rfl, z⟩)
def sStands (lw : LawT) (A : Nat → Int32) (n : Nat) (q w : Int32) : Int32 := if (1 ≤ q ∧ q ≤ 60) ∧ (0 ≤ w ∧ w ≤ 1) then sBest lw A n 1 0 q.toNatClampNeg w else BADi
theorem dX6_stands_0 : decode fX6_stands.2.1 0 = .ok (.iload_n 1, 1) := by decide +kernel
theorem dX6_stands_1 : decode fX6_stands.2.1 1 = .ok (.iconst 1, 1) := by decide +kernel
theorem dX6_stands_2 : decode fX6_stands.2.1 2 = .ok (.bipush 60, 2) := by decide +kernel
theorem dX6_stands_4 : decode fX6_stands.2.1 4 = .ok (.invokestatic 50, 3) := by decide +kernel
theorem dX6_stands_7 : decode fX6_stands.2.1 7 = .ok (.ifCond .eq 12, 3) := by decide +kernel
theorem dX6_stands_10 : decode fX6_stands.2.1 10 = .ok (.iload_n 2, 1) := by decide +kernel
theorem dX6_stands_11 : decode fX6_stands.2.1 11 = .ok (.iconst 0, 1) := by decide +kernel
theorem dX6_stands_12 : decode fX6_stands.2.1 12 = .ok (.iconst 1, 1) := by decide +kernel
theorem dX6_stands_13 : decode fX6_stands.2.1 13 = .ok (.invokestatic 50, 3) := by decide +kernel
theorem dX6_stands_16 : decode fX6_stands.2.1 16 = .ok (.ifCond .ne 6, 3) := by decide +kernel
theorem dX6_stands_19 : decode fX6_stands.2.1 19 = .ok (.ldc 58, 2) := by decide +kernel
theorem dX6_stands_21 : decode fX6_stands.2.1 21 = .ok (.ireturn, 1) := by decide +kernel
theorem dX6_stands_22 : decode fX6_stands.2.1 22 = .ok (.aload_n 0, 1) := by decide +kernel
theorem dX6_stands_23 : decode fX6_stands.2.1 23 = .ok (.iconst 1, 1) := by decide +kernel
theorem dX6_stands_24 : decode fX6_stands.2.1 24 = .ok (.iconst 0, 1) := by decide +kernel
theorem dX6_stands_25 : decode fX6_stands.2.1 25 = .ok (.iload_n 1, 1) := by decide +kernel
theorem dX6_stands_26 : decode fX6_stands.2.1 26 = .ok (.iload_n 2, 1) := by decide +kernel
theorem dX6_stands_27 : decode fX6_stands.2.1 27 = .ok (.invokevirtual 183, 3) := by decide +kernel
theorem dX6_stands_30 : decode fX6_stands.2.1 30 = .ok (.ireturn, 1) := by decide +kernel
set_option maxRecDepth 100000 in
set_option maxHeartbeats 4000000 in
theorem ok_X6_stands {X : Xb} {S : Sg} {mi : Mem} {x n : Nat} {A : Nat → Int32} {lw : LawT} {q w : Int32} (hX : AsA S x) (hn8 : n ≤ 8) (hA : eqOn (26 + 5 * n) (tv mi (x + 1)) A) (hn : A 1 = nI n) (hx : TxOk S mi (x + 1) 0) (hl : lwC S mi (x + 1) 0 = lw) (hr : TxR S (x + 1)) : Ok 6 0 0 fX6_stands X [rf X x, .int q, .int w] S mi (PT S mi x (sStands lw A n q w)) := by
  refine Ok.go [some (rf X x), some (.int q), some (.int w)] (by decide) (by simp [Value.category]) (Nat.le_of_ble_eq_true rfl) rfl ?_
  obtain ⟨k_x, ⟨r_x_now, t_now⟩, ⟨r_x_thought, t_thought⟩, ⟨r_x_image, t_image⟩, ⟨r_x_tape, t_tape⟩, ⟨r_x_sheets, k_x_sheets⟩, ⟨r_x_slots, k_x_slots⟩, ⟨r_x_waiting, k_x_waiting⟩, ⟨r_x_diff, k_x_diff⟩, a_sheets, a_slots⟩ := id hX
  have ec : mi (x + 1) 3 = nI n := by rw [show (3 : Nat) = tvF 1 from rfl, tv_0 hA (by decide) (by omega), hn]
  have z : FrT x mi mi := fun _ _ => rfl
  have go : (1 ≤ q ∧ q ≤ 60) → (0 ≤ w ∧ w ≤ 1) → Ok 5 0 0 fX6_bestOf X [rf X x, .int 1, .int 0, .int q, .int w] S mi (PT S mi x (sStands lw A n q w)) := by
    intro g2 g3
    rw [sStands, if_pos ⟨g2, g3⟩]
    obtain ⟨p, hp, rfl⟩ := in160 g2
    rw [nI_clamp (by omega)]
    exact ok_X6_bestOf (a := 0) hX hn8 hA hn hx hl hr (Or.inl rfl) hp
  refine mw_iload_n dX6_stands_0 rfl ?_
  refine mw_iconst (v := 1) dX6_stands_1 (by decide) ?_
  refine mw_bipush (v := 60) dX6_stands_2 (by decide) ?_
  refine mw_cSI (g := fX6_within) dX6_stands_4 ml_X6_50 mfX6_within (ok_X6_within) rfl rfl (Nat.le_of_ble_eq_true rfl) ⟨by decide, by decide⟩ ⟨by decide, by decide⟩ ?_
  refine mw_if_eqB (tgt := 19) dX6_stands_7 (by decide) (fun h7 => ?_) (fun h7 => ?_)
  · skip
    refine mw_ldc dX6_stands_19 cn_X6_58 ?_
    exact mw_iret dX6_stands_21 rfl (by decide) (by decide) (by rw [sStands, if_neg (by grind)]; exact ⟨rfl, Or.inl rfl, z⟩)
  · skip
    refine mw_iload_n dX6_stands_10 rfl ?_
    refine mw_iconst (v := 0) dX6_stands_11 (by decide) ?_
    refine mw_iconst (v := 1) dX6_stands_12 (by decide) ?_
    refine mw_cSI (g := fX6_within) dX6_stands_13 ml_X6_50 mfX6_within (ok_X6_within) rfl rfl (Nat.le_of_ble_eq_true rfl) ⟨by decide, by decide⟩ ⟨by decide, by decide⟩ ?_
    refine mw_if_neB (tgt := 22) dX6_stands_16 (by decide) (fun h16 => ?_) (fun h16 => ?_)
    · skip
      refine mw_aload_n dX6_stands_22 rfl ?_
      refine mw_iconst (v := 1) dX6_stands_23 (by decide) ?_
      refine mw_iconst (v := 0) dX6_stands_24 (by decide) ?_
      refine mw_iload_n dX6_stands_25 rfl ?_
      refine mw_iload_n dX6_stands_26 rfl ?_
      refine mw_callV (g := fX6_bestOf) dX6_stands_27 ml_X6_183 mfX6_bestOf (go h7 h16) (by assumption) rfl rfl (Nat.le_of_ble_eq_true rfl) ⟨by decide, by decide⟩ ⟨by decide, by decide⟩ (fun r S2 mi2 hp => ?_)
      obtain ⟨rfl, e1, e2⟩ := hp
      exact mw_iret dX6_stands_30 rfl (by decide) (by decide) (⟨rfl, e1, e2⟩)
    · skip
      refine mw_ldc dX6_stands_19 cn_X6_58 ?_
      exact mw_iret dX6_stands_21 rfl (by decide) (by decide) (by rw [sStands, if_neg (by grind)]; exact ⟨rfl, Or.inl rfl, z⟩)
