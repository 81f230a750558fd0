/-! what will be: the object thinks in its second town -/
theorem tx_out {S : Sg} {t p len : Nat} (hT : TwA S t) (hx : TxA S p len) : p + 1 < t ∨ t + 17 ≤ p + 1 := by
  obtain ⟨k0, ⟨-, b1⟩, ⟨-, b2⟩, ⟨-, b3⟩, ⟨-, b4⟩, ⟨-, b5⟩, ⟨-, b6⟩, ⟨-, b7⟩, ⟨-, b8⟩, a9⟩ := hT
  have n0 : p + 1 ≠ t := Kd_ne hx.2.2.1 k0 (by decide)
  have n1 : p ≠ t := Kd_ne hx.1 k0 (by decide)
  have n2 : p ≠ t + 1 := Kd_ne hx.1 b1 (by decide)
  have n3 : p ≠ t + 2 := Kd_ne hx.1 b2 (by decide)
  have n4 : p ≠ t + 3 := Kd_ne hx.1 b3 (by decide)
  have n5 : p ≠ t + 4 := Kd_ne hx.1 b4 (by decide)
  have n6 : p ≠ t + 5 := Kd_ne hx.1 b5 (by decide)
  have n7 : p ≠ t + 6 := Kd_ne hx.1 b6 (by decide)
  have n8 : p ≠ t + 7 := Kd_ne hx.1 b7 (by decide)
  have n9 : ∀ i, i < 8 → p + 1 ≠ t + 9 + i := fun i hi => Kd_ne hx.2.2.1 (a9 i hi).2 (by decide)
  by_cases c : t + 9 ≤ p + 1 ∧ p + 1 < t + 17
  · exact absurd (show p + 1 = t + 9 + (p + 1 - (t + 9)) by omega) (n9 _ (by omega))
  · omega
theorem take_tx {S : Sg} {mi m : Mem} {t u j : Nat} (hT : TwA S t) (hj : j < 3) (hx : TxOk S mi u j) (hm : ∀ a, a < t ∨ t + 17 ≤ a → m a = mi a) (h5 : ∀ j, j < 3 → m (t + 5) j = mi (u + 5) j) : TxOk (cpS S t u 14) m t j ∧ lwC (cpS S t u 14) m t j = lwC S mi u j := by
  have n4 : Kd S (t + 4) 14 14 := hT.2.2.2.2.1.2
  have etx : txOf (cpS S t u 14) m t j = txOf S mi u j := by
    unfold txOf
    rw [h5 j hj]
    by_cases c : 0 ≤ mi (u + 5) j ∧ mi (u + 5) j ≤ 13
    · rw [if_pos c, if_pos c]
      have hl : (mi (u + 5) j).toNatClampNeg < 14 := Nat.not_le.mp fun q => in13 c (Or.inr q)
      show cpR S.2.2 t u 14 (t + 4) _ = _
      simp [cpR, hl]
    · rw [if_neg c, if_neg c]
  have far : ∀ p len, TxA S p len → m (p + 1) = mi (p + 1) := fun p len h => hm _ (tx_out hT h)
  have tra : ∀ p len, TxA S p len → TxA (cpS S t u 14) p len := fun p len h => ⟨h.1, by
    have np : p ≠ t + 4 := Kd_ne h.1 n4 (by decide)
    show cpR S.2.2 t u 14 p 2 = _
    simp [cpR, np]; exact h.2.1, h.2.2.1, h.2.2.2⟩
  refine ⟨fun p hp => ?_, ?_⟩
  · rw [etx] at hp
    obtain ⟨len, h1, h2⟩ := hx p hp
    exact ⟨len, tra p len h1, by rw [far p len h1]; exact h2⟩
  · have e : ∀ p, txOf S mi u j = some p → m (p + 1) = mi (p + 1) := fun p hp => by
      obtain ⟨len, h1, -⟩ := hx p hp
      exact far p len h1
    unfold lwC
    rw [etx]
    generalize txOf S mi u j = q at e
    cases q with
    | none => rw [Option.map_none, Option.map_none]
    | some p => rw [Option.map_some, Option.map_some, e p rfl]
/-- of the object only its second town differs -/
def FrT (x : Nat) (mi m : Mem) : Prop := ∀ a, a < x + 18 ∨ x + 35 ≤ a → m a = mi a
def PT (S : Sg) (mi : Mem) (x : Nat) (v : Int32) : Pt3 := fun r S' m => r = some (.int v) ∧ (S' = S ∨ S' = cpS S (x + 18) (x + 1) 14) ∧ FrT x mi m
theorem FrT.of {x : Nat} {mi a b : Mem} (h : FrT x mi a) (k : Frt (x + 18) a b) : FrT x mi b := fun i hi => (k i (by omega) (by omega) (by omega) (by omega)).trans (h i hi)
theorem eqOn.tr {N : Nat} {f g h : Nat → Int32} (a : eqOn N f g) (b : eqOn N g h) : eqOn N f h := fun j hj => (a j hj).trans (b j hj)
def sBehind (lw : LawT) (A : Nat → Int32) (n : Nat) (v w : Int32) : Int32 := if (0 ≤ v ∧ v ≤ 100) ∧ (0 ≤ w ∧ w ≤ 2 + nI n) then (if w = 0 then cHours lw n A v.toNatClampNeg 3 else if w = 1 then cHours lw n A v.toNatClampNeg 4 else if w = 2 then jBits (cHours lw n A v.toNatClampNeg 9) else cHours lw n A v.toNatClampNeg (26 + 5 * (w - 3).toNatClampNeg + 3)) else BADi
theorem in0100 {v : Int32} (h : 0 ≤ v ∧ v ≤ 100) : ∃ k, k ≤ 100 ∧ v = nI k := by
  obtain ⟨j, hj, rfl⟩ := nI_of (Int32.not_lt.mpr h.1)
  exact ⟨j, by have := (nI_leI (b := 100) hj (by decide)).mp h.2; omega, rfl⟩
theorem in2n {w : Int32} {n : Nat} (hn : n ≤ 8) (h : 0 ≤ w ∧ w ≤ 2 + nI n) : ∃ k, k ≤ 2 + n ∧ w = nI k := by
  obtain ⟨j, hj, rfl⟩ := nI_of (Int32.not_lt.mpr h.1)
  have e : (2 : Int32) + nI n = nI (2 + n) := by show nI 2 + nI n = _; rw [nI_add]
  rw [e] at h
  exact ⟨j, (nI_leI hj (by omega)).mp h.2, rfl⟩
theorem dX6_behind_0 : decode fX6_behind.2.1 0 = .ok (.iload_n 1, 1) := by decide +kernel
theorem dX6_behind_1 : decode fX6_behind.2.1 1 = .ok (.iconst 0, 1) := by decide +kernel
theorem dX6_behind_2 : decode fX6_behind.2.1 2 = .ok (.bipush 100, 2) := by decide +kernel
theorem dX6_behind_4 : decode fX6_behind.2.1 4 = .ok (.invokestatic 50, 3) := by decide +kernel
theorem dX6_behind_7 : decode fX6_behind.2.1 7 = .ok (.ifCond .eq 20, 3) := by decide +kernel
theorem dX6_behind_10 : decode fX6_behind.2.1 10 = .ok (.iload_n 2, 1) := by decide +kernel
theorem dX6_behind_11 : decode fX6_behind.2.1 11 = .ok (.iconst 0, 1) := by decide +kernel
theorem dX6_behind_12 : decode fX6_behind.2.1 12 = .ok (.iconst 2, 1) := by decide +kernel
theorem dX6_behind_13 : decode fX6_behind.2.1 13 = .ok (.aload_n 0, 1) := by decide +kernel
theorem dX6_behind_14 : decode fX6_behind.2.1 14 = .ok (.getfield 10, 3) := by decide +kernel
theorem dX6_behind_17 : decode fX6_behind.2.1 17 = .ok (.getfield 130, 3) := by decide +kernel
theorem dX6_behind_20 : decode fX6_behind.2.1 20 = .ok (.iadd, 1) := by decide +kernel
theorem dX6_behind_21 : decode fX6_behind.2.1 21 = .ok (.invokestatic 50, 3) := by decide +kernel
theorem dX6_behind_24 : decode fX6_behind.2.1 24 = .ok (.ifCond .ne 6, 3) := by decide +kernel
theorem dX6_behind_27 : decode fX6_behind.2.1 27 = .ok (.ldc 58, 2) := by decide +kernel
theorem dX6_behind_29 : decode fX6_behind.2.1 29 = .ok (.ireturn, 1) := by decide +kernel
theorem dX6_behind_30 : decode fX6_behind.2.1 30 = .ok (.aload_n 0, 1) := by decide +kernel
theorem dX6_behind_31 : decode fX6_behind.2.1 31 = .ok (.getfield 16, 3) := by decide +kernel
theorem dX6_behind_34 : decode fX6_behind.2.1 34 = .ok (.aload_n 0, 1) := by decide +kernel
theorem dX6_behind_35 : decode fX6_behind.2.1 35 = .ok (.getfield 10, 3) := by decide +kernel
theorem dX6_behind_38 : decode fX6_behind.2.1 38 = .ok (.invokevirtual 178, 3) := by decide +kernel
theorem dX6_behind_41 : decode fX6_behind.2.1 41 = .ok (.iconst 0, 1) := by decide +kernel
theorem dX6_behind_42 : decode fX6_behind.2.1 42 = .ok (.istore_n 3, 1) := by decide +kernel
theorem dX6_behind_43 : decode fX6_behind.2.1 43 = .ok (.iload_n 3, 1) := by decide +kernel
theorem dX6_behind_44 : decode fX6_behind.2.1 44 = .ok (.iload_n 1, 1) := by decide +kernel
theorem dX6_behind_45 : decode fX6_behind.2.1 45 = .ok (.if_icmp .ge 16, 3) := by decide +kernel
theorem dX6_behind_48 : decode fX6_behind.2.1 48 = .ok (.aload_n 0, 1) := by decide +kernel
theorem dX6_behind_49 : decode fX6_behind.2.1 49 = .ok (.getfield 16, 3) := by decide +kernel
theorem dX6_behind_52 : decode fX6_behind.2.1 52 = .ok (.invokevirtual 151, 3) := by decide +kernel
theorem dX6_behind_55 : decode fX6_behind.2.1 55 = .ok (.iinc 3 1, 3) := by decide +kernel
theorem dX6_behind_58 : decode fX6_behind.2.1 58 = .ok (.goto (-15), 3) := by decide +kernel
theorem dX6_behind_61 : decode fX6_behind.2.1 61 = .ok (.iload_n 2, 1) := by decide +kernel
theorem dX6_behind_62 : decode fX6_behind.2.1 62 = .ok (.tableswitch 53 0 2 #[26, 34, 42], 26) := by decide +kernel
theorem dX6_behind_88 : decode fX6_behind.2.1 88 = .ok (.aload_n 0, 1) := by decide +kernel
theorem dX6_behind_89 : decode fX6_behind.2.1 89 = .ok (.getfield 16, 3) := by decide +kernel
theorem dX6_behind_92 : decode fX6_behind.2.1 92 = .ok (.getfield 145, 3) := by decide +kernel
theorem dX6_behind_95 : decode fX6_behind.2.1 95 = .ok (.ireturn, 1) := by decide +kernel
theorem dX6_behind_96 : decode fX6_behind.2.1 96 = .ok (.aload_n 0, 1) := by decide +kernel
theorem dX6_behind_97 : decode fX6_behind.2.1 97 = .ok (.getfield 16, 3) := by decide +kernel
theorem dX6_behind_100 : decode fX6_behind.2.1 100 = .ok (.getfield 158, 3) := by decide +kernel
theorem dX6_behind_103 : decode fX6_behind.2.1 103 = .ok (.ireturn, 1) := by decide +kernel
theorem dX6_behind_104 : decode fX6_behind.2.1 104 = .ok (.aload_n 0, 1) := by decide +kernel
theorem dX6_behind_105 : decode fX6_behind.2.1 105 = .ok (.getfield 16, 3) := by decide +kernel
theorem dX6_behind_108 : decode fX6_behind.2.1 108 = .ok (.getfield 118, 3) := by decide +kernel
theorem dX6_behind_111 : decode fX6_behind.2.1 111 = .ok (.invokestatic 161, 3) := by decide +kernel
theorem dX6_behind_114 : decode fX6_behind.2.1 114 = .ok (.ireturn, 1) := by decide +kernel
theorem dX6_behind_115 : decode fX6_behind.2.1 115 = .ok (.aload_n 0, 1) := by decide +kernel
theorem dX6_behind_116 : decode fX6_behind.2.1 116 = .ok (.getfield 16, 3) := by decide +kernel
theorem dX6_behind_119 : decode fX6_behind.2.1 119 = .ok (.getfield 66, 3) := by decide +kernel
theorem dX6_behind_122 : decode fX6_behind.2.1 122 = .ok (.iload_n 2, 1) := by decide +kernel
theorem dX6_behind_123 : decode fX6_behind.2.1 123 = .ok (.iconst 3, 1) := by decide +kernel
theorem dX6_behind_124 : decode fX6_behind.2.1 124 = .ok (.isub, 1) := by decide +kernel
theorem dX6_behind_125 : decode fX6_behind.2.1 125 = .ok (.aaload, 1) := by decide +kernel
theorem dX6_behind_126 : decode fX6_behind.2.1 126 = .ok (.getfield 82, 3) := by decide +kernel
theorem dX6_behind_129 : decode fX6_behind.2.1 129 = .ok (.ireturn, 1) := by decide +kernel
set_option maxRecDepth 100000 in
set_option maxHeartbeats 4000000 in
theorem ok_X6_behind {X : Xb} {S : Sg} {mi : Mem} {x n : Nat} {A : Nat → Int32} {lw : LawT} {v w : Int32} (hX : AsA S x) (hn8 : n ≤ 8) (hA : eqOn (26 + 5 * n) (tv mi (x + 1)) A) (hn : A 1 = nI n) (hx : TxOk S mi (x + 1) 0) (hl : lwC S mi (x + 1) 0 = lw) (hr : TxR S (x + 1)) : Ok 5 0 0 fX6_behind X [rf X x, .int v, .int w] S mi (PT S mi x (sBehind lw A n v w)) := by
  refine Ok.go [some (rf X x), some (.int v), some (.int w), none] (by decide) (by simp [Value.category]) (Nat.le_of_ble_eq_true rfl) rfl ?_
  obtain ⟨k_x, ⟨r_x_now, t_now⟩, ⟨r_x_thought, t_thought⟩, ⟨r_x_image, t_image⟩, ⟨r_x_tape, t_tape⟩, ⟨r_x_sheets, k_x_sheets⟩, ⟨r_x_slots, k_x_slots⟩, ⟨r_x_waiting, k_x_waiting⟩, ⟨r_x_diff, k_x_diff⟩, a_sheets, a_slots⟩ := id hX
  obtain ⟨k_t, ⟨r_t_home, k_t_home⟩, ⟨r_t_price, k_t_price⟩, ⟨r_t_attics, k_t_attics⟩, ⟨r_t_texts, k_t_texts⟩, ⟨r_t_counting, k_t_counting⟩, ⟨r_t_names, k_t_names⟩, ⟨r_t_pile, k_t_pile⟩, ⟨r_t_views, k_t_views⟩, a_t⟩ := id t_now
  have ec : mi (x + 1) 3 = nI n := by rw [show (3 : Nat) = tvF 1 from rfl, tv_0 hA (by decide) (by omega), hn]
  have z : FrT x mi mi := fun _ _ => rfl
  have hT2 : TwA (cpS S (x + 18) (x + 1) 14) (x + 18) := TwA.cp t_thought t_thought.2.2.2.2.1.2
  have nx : x ≠ x + 18 + 4 := by omega
  have k_x2 : Kd (cpS S (x + 18) (x + 1) 14) x 6 0 := k_x
  have r_x2 : (cpS S (x + 18) (x + 1) 14).2.2 x 1 = some (x + 18) := by show cpR S.2.2 (x + 18) (x + 1) 14 x 1 = _; simp only [cpR, nx, false_and, if_false]; exact r_x_thought
  obtain ⟨k_v, ⟨r_v_home, k_v_home⟩, ⟨r_v_price, k_v_price⟩, ⟨r_v_attics, k_v_attics⟩, ⟨r_v_texts, k_v_texts⟩, ⟨r_v_counting, k_v_counting⟩, ⟨r_v_names, k_v_names⟩, ⟨r_v_pile, k_v_pile⟩, ⟨r_v_views, k_v_views⟩, a_v⟩ := id hT2
  have go : ∀ q, q ≤ 100 → v = nI q → ∀ p, p ≤ 2 + n → w = nI p → ∀ m0, FrT x mi m0 → eqOn (26 + 5 * n) (tv m0 (x + 18)) A → TxOk (cpS S (x + 18) (x + 1) 14) m0 (x + 18) 0 → lwC (cpS S (x + 18) (x + 1) 14) m0 (x + 18) 0 = lw → MW X fX6_behind (rmOf 5 0 0) 0 0 43 [some (rf X x), some (.int (nI q)), some (.int (nI p)), some (.int (nI 0))] [] (cpS S (x + 18) (x + 1) 14) m0 (mQ X 0 0 (PT S mi x (sBehind lw A n v w))) := by
    intro q q100 hv p hp hw m0 f0 a0 x0 l0
    have eclv : v.toNatClampNeg = q := by rw [hv, nI_clamp (by omega)]
    have hok : (0 ≤ v ∧ v ≤ 100) ∧ (0 ≤ w ∧ w ≤ 2 + nI n) := by
      rw [hv, hw, show (2 : Int32) + nI n = nI (2 + n) from by show nI 2 + nI n = _; rw [nI_add]]
      exact ⟨⟨nI_pos' (by omega), nI_le (b := 100) q100 (by decide)⟩, nI_pos' (by omega), nI_le hp (by omega)⟩
    have lp := mw_dn (P := fun k => ∀ m, eqOn (26 + 5 * n) (tv m (x + 18)) (cHours lw n A k) → Frt (x + 18) m0 m → MW X fX6_behind (rmOf 5 0 0) 0 0 43 [some (rf X x), some (.int (nI q)), some (.int (nI p)), some (.int (nI k))] [] (cpS S (x + 18) (x + 1) 14) m (mQ X 0 0 (PT S mi x (sBehind lw A n v w)))) q (by
      intro m h2 hF
      have b3 : m (x + 18) 8 = cHours lw n A q 3 := tv_0 (j := 3) h2 (by decide) (by omega)
      have b4 : m (x + 18) 9 = cHours lw n A q 4 := tv_0 (j := 4) h2 (by decide) (by omega)
      have b9 : m (x + 18) 4 = cHours lw n A q 9 := tv_0 (j := 9) h2 (by decide) (by omega)
      refine mw_iload_n dX6_behind_43 rfl ?_
      refine mw_iload_n dX6_behind_44 rfl ?_
      refine mw_icmp_ge (tgt := 61) dX6_behind_45 (by decide) (fun h45 => ?_) (fun h45 => ?_)
      · skip
        refine mw_iload_n dX6_behind_61 rfl ?_
        refine mw_ts1 dX6_behind_62 (by decide) 0 88 (by decide) (fun h62_0 => ?_) (fun h62_0 => ?_)
        · skip
          refine mw_aload_n dX6_behind_88 rfl ?_
          refine mw_getr dX6_behind_89 fl_X6_16 rfl (by assumption) (by assumption) ?_
          refine mw_geti dX6_behind_92 fl_X6_145 rfl (by assumption) ?_
          exact mw_iret dX6_behind_95 rfl (by decide) (by decide) (⟨by rw [b3, sBehind, if_pos hok, eclv, hw, h62_0]; rfl, Or.inr rfl, f0.of hF⟩)
        refine mw_ts1 dX6_behind_62 (by decide) 1 96 (by decide) (fun h62_1 => ?_) (fun h62_1 => ?_)
        · skip
          refine mw_aload_n dX6_behind_96 rfl ?_
          refine mw_getr dX6_behind_97 fl_X6_16 rfl (by assumption) (by assumption) ?_
          refine mw_geti dX6_behind_100 fl_X6_158 rfl (by assumption) ?_
          exact mw_iret dX6_behind_103 rfl (by decide) (by decide) (⟨by rw [b4, sBehind, if_pos hok, eclv, hw, h62_1]; rfl, Or.inr rfl, f0.of hF⟩)
        refine mw_ts1 dX6_behind_62 (by decide) 2 104 (by decide) (fun h62_2 => ?_) (fun h62_2 => ?_)
        · skip
          refine mw_aload_n dX6_behind_104 rfl ?_
          refine mw_getr dX6_behind_105 fl_X6_16 rfl (by assumption) (by assumption) ?_
          refine mw_geti dX6_behind_108 fl_X6_118 rfl (by assumption) ?_
          refine mw_cSI (g := fJ6_bitCount_0f7a4) dX6_behind_111 ml_X6_161 mfJ6_bitCount_0f7a4 (ok_J6_bitCount_0f7a4) rfl rfl (Nat.le_of_ble_eq_true rfl) ⟨by decide, by decide⟩ ⟨by decide, by decide⟩ ?_
          exact mw_iret dX6_behind_114 rfl (by decide) (by decide) (⟨by rw [b9, sBehind, if_pos hok, eclv, hw, h62_2]; rfl, Or.inr rfl, f0.of hF⟩)
        refine mw_ts0 dX6_behind_62 (by decide) 115 (by decide) (by have e0 := ne_toI (n := 0) (by decide) h62_0; have e1 := ne_toI (n := 1) (by decide) h62_1; have e2 := ne_toI (n := 2) (by decide) h62_2; omega) ?_
        have p3 : 3 ≤ p := by
          have d0 : p ≠ 0 := fun e => h62_0 (by rw [e]; rfl)
          have d1 : p ≠ 1 := fun e => h62_1 (by rw [e]; rfl)
          have d2 : p ≠ 2 := fun e => h62_2 (by rw [e]; rfl)
          omega
        have e3 : nI p - 3 = nI (p - 3) := pk_sub (b := 3) p3
        have hka := (a_v (p - 3) (by omega)).2
        refine mw_aload_n dX6_behind_115 rfl ?_
        refine mw_getr dX6_behind_116 fl_X6_16 rfl (by assumption) (by assumption) ?_
        refine mw_getr dX6_behind_119 fl_X6_66 rfl (by assumption) (by assumption) ?_
        refine mw_iload_n dX6_behind_122 rfl ?_
        refine mw_iconst (v := 3) dX6_behind_123 (by decide) ?_
        refine mw_isub dX6_behind_124 ?_
        refine mw_aldK (k := p - 3) dX6_behind_125 (by assumption) (by decide) (e3) (by omega) (by decide) ((a_v (p - 3) (by omega)).1) ?_
        refine mw_geti dX6_behind_126 fl_X6_82 rfl (hka) ?_
        exact mw_iret dX6_behind_129 rfl (by decide) (by decide) (⟨by rw [tv_A (a := p - 3) (f := 3) h2 (by decide) (by omega), sBehind, if_pos hok, eclv, hw, if_neg h62_0, if_neg h62_1, if_neg h62_2, e3, nI_clamp (by omega)], Or.inr rfl, f0.of hF⟩)
      · skip
        exact absurd (Int32.le_refl _) h45) (fun k hk ih => by
      intro m h2 hF
      have hx2 := x0.fr hT2 hF
      have hl2 : lwC (cpS S (x + 18) (x + 1) 14) m (x + 18) 0 = lw := (lwC_fr hT2 x0 hF).trans l0
      have hn2 : cHours lw n A k 1 = nI n := by rw [cHours_lo (by decide) (by decide) (by decide) (by decide) (by decide) (by decide), hn]
      refine mw_iload_n dX6_behind_43 rfl ?_
      refine mw_iload_n dX6_behind_44 rfl ?_
      refine mw_icmp_ge (tgt := 61) dX6_behind_45 (by decide) (fun h45 => ?_) (fun h45 => ?_)
      · skip
        exact absurd h45 (nI_ge hk (by omega))
      · skip
        refine mw_aload_n dX6_behind_48 rfl ?_
        refine mw_getr dX6_behind_49 fl_X6_16 rfl (by assumption) (by assumption) ?_
        refine mw_callV (g := fX5_passHour) dX6_behind_52 ml_X6_151 mfX5_passHour (ok_X5_passHour hT2 hn8 h2 hn2 hx2 hl2) (by assumption) rfl rfl (Nat.le_of_ble_eq_true rfl) ⟨by decide, by decide⟩ ⟨by decide, by decide⟩ (fun r S2 mi2 hp => ?_)
        obtain ⟨rfl, e1, e4, e5⟩ := hp
        rw [e1]
        refine mw_iincK (k := k) dX6_behind_55 rfl rfl (by decide) ?_
        refine mw_goto (tgt := 43) dX6_behind_58 (by decide) ?_
        exact MW.sub (by simp [lsub]) (ih _ e4 (hF.tr e5)))
    exact lp m0 a0 (Frt.rf (x + 18) m0)
  refine mw_iload_n dX6_behind_0 rfl ?_
  refine mw_iconst (v := 0) dX6_behind_1 (by decide) ?_
  refine mw_bipush (v := 100) dX6_behind_2 (by decide) ?_
  refine mw_cSI (g := fX6_within) dX6_behind_4 ml_X6_50 mfX6_within (ok_X6_within) rfl rfl (Nat.le_of_ble_eq_true rfl) ⟨by decide, by decide⟩ ⟨by decide, by decide⟩ ?_
  refine mw_if_eqB (tgt := 27) dX6_behind_7 (by decide) (fun h7 => ?_) (fun h7 => ?_)
  · skip
    refine mw_ldc dX6_behind_27 cn_X6_58 ?_
    exact mw_iret dX6_behind_29 rfl (by decide) (by decide) (by rw [sBehind, if_neg (by grind)]; exact ⟨rfl, Or.inl rfl, z⟩)
  · skip
    refine mw_iload_n dX6_behind_10 rfl ?_
    refine mw_iconst (v := 0) dX6_behind_11 (by decide) ?_
    refine mw_iconst (v := 2) dX6_behind_12 (by decide) ?_
    refine mw_aload_n dX6_behind_13 rfl ?_
    refine mw_getr dX6_behind_14 fl_X6_10 rfl (by assumption) (by assumption) ?_
    refine mw_geti dX6_behind_17 fl_X6_130 rfl (by assumption) ?_
    rw [ec]
    refine mw_iadd dX6_behind_20 ?_
    refine mw_cSI (g := fX6_within) dX6_behind_21 ml_X6_50 mfX6_within (ok_X6_within) rfl rfl (Nat.le_of_ble_eq_true rfl) ⟨by decide, by decide⟩ ⟨by decide, by decide⟩ ?_
    refine mw_if_neB (tgt := 30) dX6_behind_24 (by decide) (fun h24 => ?_) (fun h24 => ?_)
    · skip
      refine mw_aload_n dX6_behind_30 rfl ?_
      refine mw_getr dX6_behind_31 fl_X6_16 rfl (by assumption) (by assumption) ?_
      refine mw_aload_n dX6_behind_34 rfl ?_
      refine mw_getr dX6_behind_35 fl_X6_10 rfl (by assumption) (by assumption) ?_
      refine mw_callV (g := fX5_takeAfter) dX6_behind_38 ml_X6_178 mfX5_takeAfter (ok_X5_takeAfter (n := n) t_thought t_now (by omega) ec hn8 hr) (t_thought.1) rfl rfl (Nat.le_of_ble_eq_true rfl) ⟨by decide, by decide⟩ ⟨by decide, by decide⟩ (fun r S2 mi2 hp => ?_)
      obtain ⟨rfl, e1, e2, e3, e4⟩ := hp
      rw [e1]
      obtain ⟨q, q100, hv⟩ := in0100 h7
      obtain ⟨p, hp, hw⟩ := in2n hn8 h24
      obtain ⟨x0, l0⟩ := take_tx (j := 0) t_thought (by decide) hx e2 e4
      refine mw_iconst (v := 0) dX6_behind_41 (by decide) ?_
      refine mw_istN 3 dX6_behind_42 rfl (by decide) ?_
      have gg := go q q100 hv p hp hw _ (fun a ha => e2 a (by omega)) (e3.tr hA) x0 (l0.trans hl)
      rw [← hv, ← hw] at gg
      exact MW.sub (by simp [lsub, nI_0]) gg
    · skip
      refine mw_ldc dX6_behind_27 cn_X6_58 ?_
      exact mw_iret dX6_behind_29 rfl (by decide) (by decide) (by rw [sBehind, if_neg (by grind)]; exact ⟨rfl, Or.inl rfl, z⟩)
