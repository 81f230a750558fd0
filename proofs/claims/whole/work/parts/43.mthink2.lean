/-! the model: behind, mostBy -/
def mBeh (B : Nat → Int32) (p : Nat) : Int32 := if p < 2 then B (3 + p) else if p = 2 then popI (B 9) else B (26 + 5 * (p - 3) + 3)
def mBehind (lw : LawT) (A : Nat → Int32) (n : Nat) (v w : Int32) : Int32 := if (0 ≤ v ∧ v ≤ 100) ∧ ((0 ≤ w ∧ w ≤ 2) ∨ (0 ≤ w - 3 ∧ w - 3 ≤ nI n - 1)) then mBeh (mHours lw n A v.toNatClampNeg) w.toNatClampNeg else BADi
theorem dX7_behind_0 : decode fX7_behind.2.1 0 = .ok (.iload_n 1, 1) := by decide +kernel
theorem dX7_behind_1 : decode fX7_behind.2.1 1 = .ok (.iconst 0, 1) := by decide +kernel
theorem dX7_behind_2 : decode fX7_behind.2.1 2 = .ok (.bipush 100, 2) := by decide +kernel
theorem dX7_behind_4 : decode fX7_behind.2.1 4 = .ok (.invokestatic 78, 3) := by decide +kernel
theorem dX7_behind_7 : decode fX7_behind.2.1 7 = .ok (.ifCond .eq 22, 3) := by decide +kernel
theorem dX7_behind_10 : decode fX7_behind.2.1 10 = .ok (.iload_n 2, 1) := by decide +kernel
theorem dX7_behind_11 : decode fX7_behind.2.1 11 = .ok (.iconst 0, 1) := by decide +kernel
theorem dX7_behind_12 : decode fX7_behind.2.1 12 = .ok (.iconst 2, 1) := by decide +kernel
theorem dX7_behind_13 : decode fX7_behind.2.1 13 = .ok (.invokestatic 78, 3) := by decide +kernel
theorem dX7_behind_16 : decode fX7_behind.2.1 16 = .ok (.ifCond .ne 16, 3) := by decide +kernel
theorem dX7_behind_19 : decode fX7_behind.2.1 19 = .ok (.aload_n 0, 1) := by decide +kernel
theorem dX7_behind_20 : decode fX7_behind.2.1 20 = .ok (.iload_n 2, 1) := by decide +kernel
theorem dX7_behind_21 : decode fX7_behind.2.1 21 = .ok (.iconst 3, 1) := by decide +kernel
theorem dX7_behind_22 : decode fX7_behind.2.1 22 = .ok (.isub, 1) := by decide +kernel
theorem dX7_behind_23 : decode fX7_behind.2.1 23 = .ok (.invokevirtual 132, 3) := by decide +kernel
theorem dX7_behind_26 : decode fX7_behind.2.1 26 = .ok (.ifCond .ne 6, 3) := by decide +kernel
theorem dX7_behind_29 : decode fX7_behind.2.1 29 = .ok (.ldc 127, 2) := by decide +kernel
theorem dX7_behind_31 : decode fX7_behind.2.1 31 = .ok (.ireturn, 1) := by decide +kernel
theorem dX7_behind_32 : decode fX7_behind.2.1 32 = .ok (.aload_n 0, 1) := by decide +kernel
theorem dX7_behind_33 : decode fX7_behind.2.1 33 = .ok (.invokevirtual 177, 3) := by decide +kernel
theorem dX7_behind_36 : decode fX7_behind.2.1 36 = .ok (.aload_n 0, 1) := by decide +kernel
theorem dX7_behind_37 : decode fX7_behind.2.1 37 = .ok (.iload_n 1, 1) := by decide +kernel
theorem dX7_behind_38 : decode fX7_behind.2.1 38 = .ok (.invokevirtual 163, 3) := by decide +kernel
theorem dX7_behind_41 : decode fX7_behind.2.1 41 = .ok (.iload_n 2, 1) := by decide +kernel
theorem dX7_behind_42 : decode fX7_behind.2.1 42 = .ok (.iconst 2, 1) := by decide +kernel
theorem dX7_behind_43 : decode fX7_behind.2.1 43 = .ok (.if_icmp .ge 14, 3) := by decide +kernel
theorem dX7_behind_46 : decode fX7_behind.2.1 46 = .ok (.aload_n 0, 1) := by decide +kernel
theorem dX7_behind_47 : decode fX7_behind.2.1 47 = .ok (.getfield 9, 3) := by decide +kernel
theorem dX7_behind_50 : decode fX7_behind.2.1 50 = .ok (.iconst 3, 1) := by decide +kernel
theorem dX7_behind_51 : decode fX7_behind.2.1 51 = .ok (.iload_n 2, 1) := by decide +kernel
theorem dX7_behind_52 : decode fX7_behind.2.1 52 = .ok (.iadd, 1) := by decide +kernel
theorem dX7_behind_53 : decode fX7_behind.2.1 53 = .ok (.iaload, 1) := by decide +kernel
theorem dX7_behind_54 : decode fX7_behind.2.1 54 = .ok (.goto 29, 3) := by decide +kernel
theorem dX7_behind_57 : decode fX7_behind.2.1 57 = .ok (.iload_n 2, 1) := by decide +kernel
theorem dX7_behind_58 : decode fX7_behind.2.1 58 = .ok (.iconst 2, 1) := by decide +kernel
theorem dX7_behind_59 : decode fX7_behind.2.1 59 = .ok (.if_icmp .ne 16, 3) := by decide +kernel
theorem dX7_behind_62 : decode fX7_behind.2.1 62 = .ok (.aload_n 0, 1) := by decide +kernel
theorem dX7_behind_63 : decode fX7_behind.2.1 63 = .ok (.getfield 9, 3) := by decide +kernel
theorem dX7_behind_66 : decode fX7_behind.2.1 66 = .ok (.bipush 9, 2) := by decide +kernel
theorem dX7_behind_68 : decode fX7_behind.2.1 68 = .ok (.iaload, 1) := by decide +kernel
theorem dX7_behind_69 : decode fX7_behind.2.1 69 = .ok (.invokestatic 113, 3) := by decide +kernel
theorem dX7_behind_72 : decode fX7_behind.2.1 72 = .ok (.goto 11, 3) := by decide +kernel
theorem dX7_behind_75 : decode fX7_behind.2.1 75 = .ok (.aload_n 0, 1) := by decide +kernel
theorem dX7_behind_76 : decode fX7_behind.2.1 76 = .ok (.iload_n 2, 1) := by decide +kernel
theorem dX7_behind_77 : decode fX7_behind.2.1 77 = .ok (.iconst 3, 1) := by decide +kernel
theorem dX7_behind_78 : decode fX7_behind.2.1 78 = .ok (.isub, 1) := by decide +kernel
theorem dX7_behind_79 : decode fX7_behind.2.1 79 = .ok (.iconst 3, 1) := by decide +kernel
theorem dX7_behind_80 : decode fX7_behind.2.1 80 = .ok (.invokevirtual 86, 3) := by decide +kernel
theorem dX7_behind_83 : decode fX7_behind.2.1 83 = .ok (.istore_n 3, 1) := by decide +kernel
theorem dX7_behind_84 : decode fX7_behind.2.1 84 = .ok (.aload_n 0, 1) := by decide +kernel
theorem dX7_behind_85 : decode fX7_behind.2.1 85 = .ok (.invokevirtual 180, 3) := by decide +kernel
theorem dX7_behind_88 : decode fX7_behind.2.1 88 = .ok (.iload_n 3, 1) := by decide +kernel
theorem dX7_behind_89 : decode fX7_behind.2.1 89 = .ok (.ireturn, 1) := by decide +kernel
set_option maxRecDepth 100000 in
set_option maxHeartbeats 4000000 in
theorem ok_X7_behind {X : Xb} {S : Sg} {mi : Mem} {o n t : Nat} {A : Nat → Int32} {lw : LawT} {v w : Int32} (hM : MdA S o) (hn8 : n ≤ 8) (hA : mi (o + 1) = A) (hn : A 1 = nI n) (ht : A 5 = nI t) (ht14 : t ≤ 14) (hx : MtOk A t) (hl : lwM A 0 t = lw) : Ok 8 0 0 fX7_behind X [rf X o, .int v, .int w] S mi (PK S mi o (mBehind lw A n v w)) := by
  refine Ok.go [some (rf X o), some (.int v), some (.int w), none] (by decide) (by simp [Value.category]) (Nat.le_of_ble_eq_true rfl) rfl ?_
  obtain ⟨k_o, ⟨r_o_now, k_o_now⟩, ⟨r_o_image, k_o_image⟩, ⟨r_o_aside, k_o_aside⟩, ⟨r_o_seen, k_o_seen⟩, ⟨r_o_unlike, k_o_unlike⟩, ⟨r_o_tape, k_o_tape⟩, ⟨r_o_keys, k_o_keys⟩, ⟨r_o_keyAt, k_o_keyAt⟩, ⟨r_o_code, k_o_code⟩, ⟨r_o_waits, k_o_waits⟩, ⟨r_o_tested, k_o_tested⟩, ⟨r_o_stack, k_o_stack⟩, ⟨r_o_facts, k_o_facts⟩, ⟨r_o_sorts, k_o_sorts⟩, ⟨r_o_sizes, k_o_sizes⟩, ⟨r_o_cells, k_o_cells⟩, ⟨r_o_holds, k_o_holds⟩, ⟨r_o_holdsA, k_o_holdsA⟩, ⟨r_o_holdsB, k_o_holdsB⟩, ⟨r_o_heldCells, k_o_heldCells⟩, ⟨r_o_moved, k_o_moved⟩, ⟨r_o_tells, k_o_tells⟩⟩ := id hM
  have en : mi (o + 1) 1 = nI n := by rw [hA, hn]
  have z : FrK o mi mi := fun _ _ _ _ _ => rfl
  have go : ∀ q p, q ≤ 100 → p ≤ 2 + n → mBeh (mHours lw n A q) p = mBehind lw A n v w → MW X fX7_behind (rmOf 8 0 0) 0 0 32 [some (rf X o), some (.int (nI q)), some (.int (nI p)), none] [] S mi (mQ X 0 0 (PK S mi o (mBehind lw A n v w))) := by
    intro q p hq hp2 hR
    refine mw_aload_n dX7_behind_32 rfl ?_
    refine mw_cVV (g := fX7_thinks) dX7_behind_33 ml_X7_177 mfX7_thinks (ok_X7_thinks hM) (by assumption) rfl rfl (Nat.le_of_ble_eq_true rfl) ⟨by decide, by decide⟩ ⟨by decide, by decide⟩ ?_
    refine mw_aload_n dX7_behind_36 rfl ?_
    refine mw_iload_n dX7_behind_37 rfl ?_
    refine mw_callV (g := fX7_goesOn) dX7_behind_38 ml_X7_163 mfX7_goesOn (ok_X7_goesOn (q := q) hM hn8 (thk_now.trans hA) hn ht ht14 hx hl (by omega)) (by assumption) rfl rfl (Nat.le_of_ble_eq_true rfl) ⟨by decide, by decide⟩ ⟨by decide, by decide⟩ (fun r S2 mi2 hp => ?_)
    obtain ⟨rfl, e1, e4, e5⟩ := hp
    rw [e1]
    have b := thk_back e5 (by rw [e4, hA]; exact mHours_hi hn8 q)
    refine mw_iload_n dX7_behind_41 rfl ?_
    refine mw_iconst (v := 2) dX7_behind_42 (by decide) ?_
    refine mw_icmp_ge (tgt := 57) dX7_behind_43 (by decide) (fun h43 => ?_) (fun h43 => ?_)
    · skip
      have p2 : 2 ≤ p := by
        rcases Nat.lt_or_ge p 2 with g | g
        · exact absurd h43 (Int32.not_le.mpr (nI_lt (b := 2) g (by decide)))
        · exact g
      refine mw_iload_n dX7_behind_57 rfl ?_
      refine mw_iconst (v := 2) dX7_behind_58 (by decide) ?_
      refine mw_icmp_ne (tgt := 75) dX7_behind_59 (by decide) (fun h59 => ?_) (fun h59 => ?_)
      · skip
        have pn : p ≠ 2 := fun e => h59 (by rw [e]; rfl)
        have e3 : nI p - 3 = nI (p - 3) := pk_sub (b := 3) (by omega)
        refine mw_aload_n dX7_behind_75 rfl ?_
        refine mw_iload_n dX7_behind_76 rfl ?_
        refine mw_iconst (v := 3) dX7_behind_77 (by decide) ?_
        refine mw_isub dX7_behind_78 ?_
        rw [e3]
        refine mw_iconst (v := 3) dX7_behind_79 (by decide) ?_
        refine mw_cVI (g := fX7_of) dX7_behind_80 ml_X7_86 mfX7_of (ok_X7_of hM (a := p - 3) (w := 3) (by omega) (by decide)) (by assumption) rfl rfl (Nat.le_of_ble_eq_true rfl) ⟨by decide, by decide⟩ ⟨by decide, by decide⟩ ?_
        refine mw_istN 3 dX7_behind_83 rfl (by decide) ?_
        refine mw_aload_n dX7_behind_84 rfl ?_
        refine mw_cVV (g := fX7_putsBack) dX7_behind_85 ml_X7_180 mfX7_putsBack (ok_X7_putsBack hM) (by assumption) rfl rfl (Nat.le_of_ble_eq_true rfl) ⟨by decide, by decide⟩ ⟨by decide, by decide⟩ ?_
        refine mw_iload_n dX7_behind_88 rfl ?_
        exact mw_iret dX7_behind_89 rfl (by decide) (by decide) (by first | exact ⟨by rw [← hR, mBeh, if_pos p2, e4], rfl, b⟩ | exact ⟨by rw [← hR, mBeh, if_neg (by omega), if_pos pe, e4], rfl, b⟩ | exact ⟨by rw [← hR, mBeh, if_neg (by omega), if_neg pn, e4], rfl, b⟩ | fail "leaf")
      · skip
        have pe : p = 2 := by
          rcases Nat.lt_or_ge 2 p with g | g
          · exact absurd h59 (fun e => absurd (nI_lt (a := 2) g (by omega)) (by rw [e]; decide))
          · omega
        refine mw_aload_n dX7_behind_62 rfl ?_
        refine mw_getr dX7_behind_63 fl_X7_9 rfl (by assumption) (by assumption) ?_
        refine mw_bipush (v := 9) dX7_behind_66 (by decide) ?_
        refine mw_ialdK (k := 9) dX7_behind_68 (by assumption) (rfl) (by decide) (by decide) ?_
        refine mw_cSI (g := fX7_bits) dX7_behind_69 ml_X7_113 mfX7_bits (ok_X7_bits) rfl rfl (Nat.le_of_ble_eq_true rfl) ⟨by decide, by decide⟩ ⟨by decide, by decide⟩ ?_
        refine mw_goto (tgt := 83) dX7_behind_72 (by decide) ?_
        refine mw_istN 3 dX7_behind_83 rfl (by decide) ?_
        refine mw_aload_n dX7_behind_84 rfl ?_
        refine mw_cVV (g := fX7_putsBack) dX7_behind_85 ml_X7_180 mfX7_putsBack (ok_X7_putsBack hM) (by assumption) rfl rfl (Nat.le_of_ble_eq_true rfl) ⟨by decide, by decide⟩ ⟨by decide, by decide⟩ ?_
        refine mw_iload_n dX7_behind_88 rfl ?_
        exact mw_iret dX7_behind_89 rfl (by decide) (by decide) (by first | exact ⟨by rw [← hR, mBeh, if_pos p2, e4], rfl, b⟩ | exact ⟨by rw [← hR, mBeh, if_neg (by omega), if_pos pe, e4], rfl, b⟩ | exact ⟨by rw [← hR, mBeh, if_neg (by omega), if_neg pn, e4], rfl, b⟩ | fail "leaf")
    · skip
      have p2 : p < 2 := by
        rcases Nat.lt_or_ge p 2 with g | g
        · exact g
        · exact absurd (nI_le (a := 2) g (by omega)) h43
      refine mw_aload_n dX7_behind_46 rfl ?_
      refine mw_getr dX7_behind_47 fl_X7_9 rfl (by assumption) (by assumption) ?_
      refine mw_iconst (v := 3) dX7_behind_50 (by decide) ?_
      refine mw_iload_n dX7_behind_51 rfl ?_
      refine mw_iadd dX7_behind_52 ?_
      refine mw_ialdK (k := 3 + p) dX7_behind_53 (by assumption) ((show nI 3 + nI p = nI (3 + p) by rw [nI_add])) (by omega) (by decide) ?_
      refine mw_goto (tgt := 83) dX7_behind_54 (by decide) ?_
      refine mw_istN 3 dX7_behind_83 rfl (by decide) ?_
      refine mw_aload_n dX7_behind_84 rfl ?_
      refine mw_cVV (g := fX7_putsBack) dX7_behind_85 ml_X7_180 mfX7_putsBack (ok_X7_putsBack hM) (by assumption) rfl rfl (Nat.le_of_ble_eq_true rfl) ⟨by decide, by decide⟩ ⟨by decide, by decide⟩ ?_
      refine mw_iload_n dX7_behind_88 rfl ?_
      exact mw_iret dX7_behind_89 rfl (by decide) (by decide) (by first | exact ⟨by rw [← hR, mBeh, if_pos p2, e4], rfl, b⟩ | exact ⟨by rw [← hR, mBeh, if_neg (by omega), if_pos pe, e4], rfl, b⟩ | exact ⟨by rw [← hR, mBeh, if_neg (by omega), if_neg pn, e4], rfl, b⟩ | fail "leaf")
  refine mw_iload_n dX7_behind_0 rfl ?_
  refine mw_iconst (v := 0) dX7_behind_1 (by decide) ?_
  refine mw_bipush (v := 100) dX7_behind_2 (by decide) ?_
  refine mw_cSI (g := fX7_in) dX7_behind_4 ml_X7_78 mfX7_in (ok_X7_in) rfl rfl (Nat.le_of_ble_eq_true rfl) ⟨by decide, by decide⟩ ⟨by decide, by decide⟩ ?_
  refine mw_if_eqB (tgt := 29) dX7_behind_7 (by decide) (fun h7 => ?_) (fun h7 => ?_)
  · skip
    refine mw_ldc dX7_behind_29 cn_X7_127 ?_
    exact mw_iret dX7_behind_31 rfl (by decide) (by decide) (by rw [mBehind, if_neg (by grind)]; exact ⟨rfl, rfl, rfl, z⟩)
  · skip
    refine mw_iload_n dX7_behind_10 rfl ?_
    refine mw_iconst (v := 0) dX7_behind_11 (by decide) ?_
    refine mw_iconst (v := 2) dX7_behind_12 (by decide) ?_
    refine mw_cSI (g := fX7_in) dX7_behind_13 ml_X7_78 mfX7_in (ok_X7_in) rfl rfl (Nat.le_of_ble_eq_true rfl) ⟨by decide, by decide⟩ ⟨by decide, by decide⟩ ?_
    refine mw_if_neB (tgt := 32) dX7_behind_16 (by decide) (fun h16 => ?_) (fun h16 => ?_)
    · skip
      first
        | (obtain ⟨q, hq, rfl⟩ := in0100 h7; obtain ⟨p, hp, rfl⟩ := in02 h16; exact go q p hq (by omega) (by rw [mBehind, if_pos ⟨h7, Or.inl h16⟩, nI_clamp (by omega), nI_clamp (by omega)]))
        | (obtain ⟨q, hq, rfl⟩ := in0100 h7; obtain ⟨a, ha, e⟩ := inAt h26 hn8; obtain rfl : w = nI (a + 3) := by { rw [← nI_add, ← e]; show w = w - 3 + 3; grind }; exact go q (a + 3) hq (by omega) (by rw [mBehind, if_pos ⟨h7, Or.inr h26⟩, nI_clamp (by omega), nI_clamp (by omega)]))
        | fail "stop"
    · skip
      refine mw_aload_n dX7_behind_19 rfl ?_
      refine mw_iload_n dX7_behind_20 rfl ?_
      refine mw_iconst (v := 3) dX7_behind_21 (by decide) ?_
      refine mw_isub dX7_behind_22 ?_
      refine mw_cVI (g := fX7_isAttic) dX7_behind_23 ml_X7_132 mfX7_isAttic (ok_X7_isAttic hM) (by assumption) rfl rfl (Nat.le_of_ble_eq_true rfl) ⟨by decide, by decide⟩ ⟨by decide, by decide⟩ ?_
      rw [en]
      refine mw_if_neB (tgt := 32) dX7_behind_26 (by decide) (fun h26 => ?_) (fun h26 => ?_)
      · skip
        first
          | (obtain ⟨q, hq, rfl⟩ := in0100 h7; obtain ⟨p, hp, rfl⟩ := in02 h16; exact go q p hq (by omega) (by rw [mBehind, if_pos ⟨h7, Or.inl h16⟩, nI_clamp (by omega), nI_clamp (by omega)]))
          | (obtain ⟨q, hq, rfl⟩ := in0100 h7; obtain ⟨a, ha, e⟩ := inAt h26 hn8; obtain rfl : w = nI (a + 3) := by { rw [← nI_add, ← e]; show w = w - 3 + 3; grind }; exact go q (a + 3) hq (by omega) (by rw [mBehind, if_pos ⟨h7, Or.inr h26⟩, nI_clamp (by omega), nI_clamp (by omega)]))
          | fail "stop"
      · skip
        refine mw_ldc dX7_behind_29 cn_X7_127 ?_
        exact mw_iret dX7_behind_31 rfl (by decide) (by decide) (by rw [mBehind, if_neg (by grind)]; exact ⟨rfl, rfl, rfl, z⟩)
def mostC (f : Nat → Int32) : Nat → Int32 × Int32
  | 0 => (0, -1)
  | v + 1 => if (mostC f v).2 < f v then (nI v, f v) else mostC f v
def mostF (lw : LawT) (A : Nat → Int32) (n i q : Nat) (v : Nat) : Int32 := mHours lw n (upd A i (nI v)) q 3
def mMost (lw : LawT) (A : Nat → Int32) (n i N q : Nat) (w : Int32) : Int32 := if w = 0 then (mostC (mostF lw A n i q) N).1 else (mostC (mostF lw A n i q) N).2
theorem FrM.cpy {o p : Nat} {a b : Mem} (h : FrM o a b) : FrM o a (m_cpy b p (o + 1) 0 0 1438) := by
  intro x h1 h2 h3
  funext j
  simp only [m_cpy, h1, false_and, if_false]
  rw [h x h1 h2 h3]
theorem thk_frk {mi m : Mem} {o : Nat} (hF : FrM o (m_cpy mi (o + 1) (o + 3) 0 0 1438) m) : FrK o mi m := by
  intro a h1 h2 h3 h4
  funext j
  rw [hF a h1 h3 h4]
  simp only [m_cpy, h2, false_and, if_false]
theorem tail66_upd {A : Nat → Int32} {i : Nat} {v : Int32} (hi : i < 66) : tail66 A (upd A i v) := by
  intro j hj
  simp only [upd, show j ≠ i by omega, if_false]
theorem dX7_mostBy_0 : decode fX7_mostBy.2.1 0 = .ok (.aload_n 0, 1) := by decide +kernel
theorem dX7_mostBy_1 : decode fX7_mostBy.2.1 1 = .ok (.invokevirtual 177, 3) := by decide +kernel
theorem dX7_mostBy_4 : decode fX7_mostBy.2.1 4 = .ok (.iconst 0, 1) := by decide +kernel
theorem dX7_mostBy_5 : decode fX7_mostBy.2.1 5 = .ok (.istore 5, 2) := by decide +kernel
theorem dX7_mostBy_7 : decode fX7_mostBy.2.1 7 = .ok (.iconst (-1), 1) := by decide +kernel
theorem dX7_mostBy_8 : decode fX7_mostBy.2.1 8 = .ok (.istore 6, 2) := by decide +kernel
theorem dX7_mostBy_10 : decode fX7_mostBy.2.1 10 = .ok (.iconst 0, 1) := by decide +kernel
theorem dX7_mostBy_11 : decode fX7_mostBy.2.1 11 = .ok (.istore 7, 2) := by decide +kernel
theorem dX7_mostBy_13 : decode fX7_mostBy.2.1 13 = .ok (.iload 7, 2) := by decide +kernel
theorem dX7_mostBy_15 : decode fX7_mostBy.2.1 15 = .ok (.iload_n 2, 1) := by decide +kernel
theorem dX7_mostBy_16 : decode fX7_mostBy.2.1 16 = .ok (.if_icmp .ge 66, 3) := by decide +kernel
theorem dX7_mostBy_19 : decode fX7_mostBy.2.1 19 = .ok (.aload_n 0, 1) := by decide +kernel
theorem dX7_mostBy_20 : decode fX7_mostBy.2.1 20 = .ok (.getfield 9, 3) := by decide +kernel
theorem dX7_mostBy_23 : decode fX7_mostBy.2.1 23 = .ok (.iload_n 1, 1) := by decide +kernel
theorem dX7_mostBy_24 : decode fX7_mostBy.2.1 24 = .ok (.iload 7, 2) := by decide +kernel
theorem dX7_mostBy_26 : decode fX7_mostBy.2.1 26 = .ok (.iastore, 1) := by decide +kernel
theorem dX7_mostBy_27 : decode fX7_mostBy.2.1 27 = .ok (.aload_n 0, 1) := by decide +kernel
theorem dX7_mostBy_28 : decode fX7_mostBy.2.1 28 = .ok (.iload_n 3, 1) := by decide +kernel
theorem dX7_mostBy_29 : decode fX7_mostBy.2.1 29 = .ok (.invokevirtual 163, 3) := by decide +kernel
theorem dX7_mostBy_32 : decode fX7_mostBy.2.1 32 = .ok (.aload_n 0, 1) := by decide +kernel
theorem dX7_mostBy_33 : decode fX7_mostBy.2.1 33 = .ok (.getfield 9, 3) := by decide +kernel
theorem dX7_mostBy_36 : decode fX7_mostBy.2.1 36 = .ok (.iconst 3, 1) := by decide +kernel
theorem dX7_mostBy_37 : decode fX7_mostBy.2.1 37 = .ok (.iaload, 1) := by decide +kernel
theorem dX7_mostBy_38 : decode fX7_mostBy.2.1 38 = .ok (.istore 8, 2) := by decide +kernel
theorem dX7_mostBy_40 : decode fX7_mostBy.2.1 40 = .ok (.iload 8, 2) := by decide +kernel
theorem dX7_mostBy_42 : decode fX7_mostBy.2.1 42 = .ok (.iload 6, 2) := by decide +kernel
theorem dX7_mostBy_44 : decode fX7_mostBy.2.1 44 = .ok (.if_icmp .le 8, 3) := by decide +kernel
theorem dX7_mostBy_47 : decode fX7_mostBy.2.1 47 = .ok (.iload 7, 2) := by decide +kernel
theorem dX7_mostBy_49 : decode fX7_mostBy.2.1 49 = .ok (.goto 5, 3) := by decide +kernel
theorem dX7_mostBy_52 : decode fX7_mostBy.2.1 52 = .ok (.iload 5, 2) := by decide +kernel
theorem dX7_mostBy_54 : decode fX7_mostBy.2.1 54 = .ok (.istore 5, 2) := by decide +kernel
theorem dX7_mostBy_56 : decode fX7_mostBy.2.1 56 = .ok (.iload 8, 2) := by decide +kernel
theorem dX7_mostBy_58 : decode fX7_mostBy.2.1 58 = .ok (.iload 6, 2) := by decide +kernel
theorem dX7_mostBy_60 : decode fX7_mostBy.2.1 60 = .ok (.if_icmp .le 8, 3) := by decide +kernel
theorem dX7_mostBy_63 : decode fX7_mostBy.2.1 63 = .ok (.iload 8, 2) := by decide +kernel
theorem dX7_mostBy_65 : decode fX7_mostBy.2.1 65 = .ok (.goto 5, 3) := by decide +kernel
theorem dX7_mostBy_68 : decode fX7_mostBy.2.1 68 = .ok (.iload 6, 2) := by decide +kernel
theorem dX7_mostBy_70 : decode fX7_mostBy.2.1 70 = .ok (.istore 6, 2) := by decide +kernel
theorem dX7_mostBy_72 : decode fX7_mostBy.2.1 72 = .ok (.aload_n 0, 1) := by decide +kernel
theorem dX7_mostBy_73 : decode fX7_mostBy.2.1 73 = .ok (.invokevirtual 180, 3) := by decide +kernel
theorem dX7_mostBy_76 : decode fX7_mostBy.2.1 76 = .ok (.iinc 7 1, 3) := by decide +kernel
theorem dX7_mostBy_79 : decode fX7_mostBy.2.1 79 = .ok (.goto (-66), 3) := by decide +kernel
theorem dX7_mostBy_82 : decode fX7_mostBy.2.1 82 = .ok (.iload 4, 2) := by decide +kernel
theorem dX7_mostBy_84 : decode fX7_mostBy.2.1 84 = .ok (.ifCond .ne 8, 3) := by decide +kernel
theorem dX7_mostBy_87 : decode fX7_mostBy.2.1 87 = .ok (.iload 5, 2) := by decide +kernel
theorem dX7_mostBy_89 : decode fX7_mostBy.2.1 89 = .ok (.goto 5, 3) := by decide +kernel
theorem dX7_mostBy_92 : decode fX7_mostBy.2.1 92 = .ok (.iload 6, 2) := by decide +kernel
theorem dX7_mostBy_94 : decode fX7_mostBy.2.1 94 = .ok (.ireturn, 1) := by decide +kernel
set_option maxRecDepth 100000 in
set_option maxHeartbeats 4000000 in
theorem ok_X7_mostBy {X : Xb} {S : Sg} {mi : Mem} {o n t i N q : Nat} {A : Nat → Int32} {lw : LawT} {w : Int32} (hM : MdA S o) (hn8 : n ≤ 8) (hA : mi (o + 1) = A) (hn : A 1 = nI n) (ht : A 5 = nI t) (ht14 : t ≤ 14) (hx : MtOk A t) (hl : lwM A 0 t = lw) (hi : 9 ≤ i) (hi2 : i < 66) (hN : N ≤ 24) (hq : q ≤ 60) : Ok 8 0 0 fX7_mostBy X [rf X o, .int (nI i), .int (nI N), .int (nI q), .int w] S mi (PK S mi o (mMost lw A n i N q w)) := by
  refine Ok.go [some (rf X o), some (.int (nI i)), some (.int (nI N)), some (.int (nI q)), some (.int w), none, none, none, none] (by decide) (by simp [Value.category]) (Nat.le_of_ble_eq_true rfl) rfl ?_
  obtain ⟨k_o, ⟨r_o_now, k_o_now⟩, ⟨r_o_image, k_o_image⟩, ⟨r_o_aside, k_o_aside⟩, ⟨r_o_seen, k_o_seen⟩, ⟨r_o_unlike, k_o_unlike⟩, ⟨r_o_tape, k_o_tape⟩, ⟨r_o_keys, k_o_keys⟩, ⟨r_o_keyAt, k_o_keyAt⟩, ⟨r_o_code, k_o_code⟩, ⟨r_o_waits, k_o_waits⟩, ⟨r_o_tested, k_o_tested⟩, ⟨r_o_stack, k_o_stack⟩, ⟨r_o_facts, k_o_facts⟩, ⟨r_o_sorts, k_o_sorts⟩, ⟨r_o_sizes, k_o_sizes⟩, ⟨r_o_cells, k_o_cells⟩, ⟨r_o_holds, k_o_holds⟩, ⟨r_o_holdsA, k_o_holdsA⟩, ⟨r_o_holdsB, k_o_holdsB⟩, ⟨r_o_heldCells, k_o_heldCells⟩, ⟨r_o_moved, k_o_moved⟩, ⟨r_o_tells, k_o_tells⟩⟩ := id hM
  have lp := mw_dn (P := fun k => ∀ m, m (o + 1) = A → FrM o (m_cpy mi (o + 1) (o + 3) 0 0 1438) m → MW X fX7_mostBy (rmOf 8 0 0) 0 0 13 [some (rf X o), some (.int (nI i)), some (.int (nI N)), some (.int (nI q)), some (.int w), some (.int (mostC (mostF lw A n i q) k).1), some (.int (mostC (mostF lw A n i q) k).2), some (.int (nI k)), none] [] S m (mQ X 0 0 (PK S mi o (mMost lw A n i N q w)))) N (by
    intro m hm hF
    refine mw_iload dX7_mostBy_13 rfl ?_
    refine mw_iload_n dX7_mostBy_15 rfl ?_
    refine mw_icmp_ge (tgt := 82) dX7_mostBy_16 (by decide) (fun h16 => ?_) (fun h16 => ?_)
    · skip
      refine mw_iload dX7_mostBy_82 rfl ?_
      refine mw_if_ne (tgt := 92) dX7_mostBy_84 (by decide) (fun h84 => ?_) (fun h84 => ?_)
      · skip
        refine mw_iload dX7_mostBy_92 rfl ?_
        exact mw_iret dX7_mostBy_94 rfl (by decide) (by decide) (⟨by first | rw [mMost, if_pos h84] | rw [mMost, if_neg h84], rfl, hm.trans hA.symm, thk_frk hF⟩)
      · skip
        refine mw_iload dX7_mostBy_87 rfl ?_
        refine mw_goto (tgt := 94) dX7_mostBy_89 (by decide) ?_
        exact mw_iret dX7_mostBy_94 rfl (by decide) (by decide) (⟨by first | rw [mMost, if_pos h84] | rw [mMost, if_neg h84], rfl, hm.trans hA.symm, thk_frk hF⟩)
    · skip
      exact absurd (Int32.le_refl _) h16) (fun k hk ih => by
    intro m hm hF
    have hB : m_up m (o + 1) i (nI k) (o + 1) = upd A i (nI k) := by rw [m_up_row, hm]
    have tl : tail66 A (upd A i (nI k)) := tail66_upd hi2
    have b1 : upd A i (nI k) 1 = nI n := by simp only [upd, show (1 : Nat) ≠ i by omega, if_false]; exact hn
    have b5 : upd A i (nI k) 5 = nI t := by simp only [upd, show (5 : Nat) ≠ i by omega, if_false]; exact ht
    simp only [mostC] at ih
    refine mw_iload dX7_mostBy_13 rfl ?_
    refine mw_iload_n dX7_mostBy_15 rfl ?_
    refine mw_icmp_ge (tgt := 82) dX7_mostBy_16 (by decide) (fun h16 => ?_) (fun h16 => ?_)
    · skip
      exact absurd h16 (nI_ge hk (by omega))
    · skip
      refine mw_aload_n dX7_mostBy_19 rfl ?_
      refine mw_getr dX7_mostBy_20 fl_X7_9 rfl (by assumption) (by assumption) ?_
      refine mw_iload_n dX7_mostBy_23 rfl ?_
      refine mw_iload dX7_mostBy_24 rfl ?_
      refine mw_iastK (k := i) dX7_mostBy_26 (by assumption) (rfl) (by omega) (by decide) ?_
      refine mw_aload_n dX7_mostBy_27 rfl ?_
      refine mw_iload_n dX7_mostBy_28 rfl ?_
      refine mw_callV (g := fX7_goesOn) dX7_mostBy_29 ml_X7_163 mfX7_goesOn (ok_X7_goesOn (q := q) hM hn8 hB b1 b5 ht14 (hx.congr tl) ((lwM_congr tl).trans hl) (by omega)) (by assumption) rfl rfl (Nat.le_of_ble_eq_true rfl) ⟨by decide, by decide⟩ ⟨by decide, by decide⟩ (fun r S2 mi2 hp => ?_)
      obtain ⟨rfl, e1, e4, e5⟩ := hp
      rw [e1]
      have hF2 := hF.up.tr e5
      have b := thk_back hF2 (by rw [e4, hA]; exact fun j hj => (mHours_hi hn8 q j hj).trans (tl j hj))
      refine mw_aload_n dX7_mostBy_32 rfl ?_
      refine mw_getr dX7_mostBy_33 fl_X7_9 rfl (by assumption) (by assumption) ?_
      refine mw_iconst (v := 3) dX7_mostBy_36 (by decide) ?_
      refine mw_ialdK (k := 3) dX7_mostBy_37 (by assumption) (rfl) (by decide) (by decide) ?_
      rw [e4, show mHours lw n (upd A i (nI k)) q 3 = mostF lw A n i q k from rfl]
      refine mw_istore dX7_mostBy_38 (by decide) ?_
      refine mw_iload dX7_mostBy_40 rfl ?_
      refine mw_iload dX7_mostBy_42 rfl ?_
      refine mw_icmp_le (tgt := 52) dX7_mostBy_44 (by decide) (fun h44 => ?_) (fun h44 => ?_)
      · skip
        refine mw_iload dX7_mostBy_52 rfl ?_
        refine mw_istore dX7_mostBy_54 (by decide) ?_
        refine mw_iload dX7_mostBy_56 rfl ?_
        refine mw_iload dX7_mostBy_58 rfl ?_
        refine mw_icmp_le (tgt := 68) dX7_mostBy_60 (by decide) (fun h60 => ?_) (fun h60 => ?_)
        · skip
          refine mw_iload dX7_mostBy_68 rfl ?_
          refine mw_istore dX7_mostBy_70 (by decide) ?_
          refine mw_aload_n dX7_mostBy_72 rfl ?_
          refine mw_cVV (g := fX7_putsBack) dX7_mostBy_73 ml_X7_180 mfX7_putsBack (ok_X7_putsBack hM) (by assumption) rfl rfl (Nat.le_of_ble_eq_true rfl) ⟨by decide, by decide⟩ ⟨by decide, by decide⟩ ?_
          refine mw_iincK (k := k) dX7_mostBy_76 rfl rfl (by decide) ?_
          refine mw_goto (tgt := 13) dX7_mostBy_79 (by decide) ?_
          first
            | exact absurd h44 h60
            | exact absurd h60 h44
            | (rw [if_pos (Int32.not_le.mp h44)] at ih; exact MW.sub (by simp [lsub]) (ih _ (b.1.trans hA) hF2.cpy))
            | (rw [if_neg (Int32.not_lt.mpr h44)] at ih; exact MW.sub (by simp [lsub]) (ih _ (b.1.trans hA) hF2.cpy))
            | fail "stop"
        · skip
          refine mw_iload dX7_mostBy_63 rfl ?_
          refine mw_goto (tgt := 70) dX7_mostBy_65 (by decide) ?_
          refine mw_istore dX7_mostBy_70 (by decide) ?_
          refine mw_aload_n dX7_mostBy_72 rfl ?_
          refine mw_cVV (g := fX7_putsBack) dX7_mostBy_73 ml_X7_180 mfX7_putsBack (ok_X7_putsBack hM) (by assumption) rfl rfl (Nat.le_of_ble_eq_true rfl) ⟨by decide, by decide⟩ ⟨by decide, by decide⟩ ?_
          refine mw_iincK (k := k) dX7_mostBy_76 rfl rfl (by decide) ?_
          refine mw_goto (tgt := 13) dX7_mostBy_79 (by decide) ?_
          first
            | exact absurd h44 h60
            | exact absurd h60 h44
            | (rw [if_pos (Int32.not_le.mp h44)] at ih; exact MW.sub (by simp [lsub]) (ih _ (b.1.trans hA) hF2.cpy))
            | (rw [if_neg (Int32.not_lt.mpr h44)] at ih; exact MW.sub (by simp [lsub]) (ih _ (b.1.trans hA) hF2.cpy))
            | fail "stop"
      · skip
        refine mw_iload dX7_mostBy_47 rfl ?_
        refine mw_goto (tgt := 54) dX7_mostBy_49 (by decide) ?_
        refine mw_istore dX7_mostBy_54 (by decide) ?_
        refine mw_iload dX7_mostBy_56 rfl ?_
        refine mw_iload dX7_mostBy_58 rfl ?_
        refine mw_icmp_le (tgt := 68) dX7_mostBy_60 (by decide) (fun h60 => ?_) (fun h60 => ?_)
        · skip
          refine mw_iload dX7_mostBy_68 rfl ?_
          refine mw_istore dX7_mostBy_70 (by decide) ?_
          refine mw_aload_n dX7_mostBy_72 rfl ?_
          refine mw_cVV (g := fX7_putsBack) dX7_mostBy_73 ml_X7_180 mfX7_putsBack (ok_X7_putsBack hM) (by assumption) rfl rfl (Nat.le_of_ble_eq_true rfl) ⟨by decide, by decide⟩ ⟨by decide, by decide⟩ ?_
          refine mw_iincK (k := k) dX7_mostBy_76 rfl rfl (by decide) ?_
          refine mw_goto (tgt := 13) dX7_mostBy_79 (by decide) ?_
          first
            | exact absurd h44 h60
            | exact absurd h60 h44
            | (rw [if_pos (Int32.not_le.mp h44)] at ih; exact MW.sub (by simp [lsub]) (ih _ (b.1.trans hA) hF2.cpy))
            | (rw [if_neg (Int32.not_lt.mpr h44)] at ih; exact MW.sub (by simp [lsub]) (ih _ (b.1.trans hA) hF2.cpy))
            | fail "stop"
        · skip
          refine mw_iload dX7_mostBy_63 rfl ?_
          refine mw_goto (tgt := 70) dX7_mostBy_65 (by decide) ?_
          refine mw_istore dX7_mostBy_70 (by decide) ?_
          refine mw_aload_n dX7_mostBy_72 rfl ?_
          refine mw_cVV (g := fX7_putsBack) dX7_mostBy_73 ml_X7_180 mfX7_putsBack (ok_X7_putsBack hM) (by assumption) rfl rfl (Nat.le_of_ble_eq_true rfl) ⟨by decide, by decide⟩ ⟨by decide, by decide⟩ ?_
          refine mw_iincK (k := k) dX7_mostBy_76 rfl rfl (by decide) ?_
          refine mw_goto (tgt := 13) dX7_mostBy_79 (by decide) ?_
          first
            | exact absurd h44 h60
            | exact absurd h60 h44
            | (rw [if_pos (Int32.not_le.mp h44)] at ih; exact MW.sub (by simp [lsub]) (ih _ (b.1.trans hA) hF2.cpy))
            | (rw [if_neg (Int32.not_lt.mpr h44)] at ih; exact MW.sub (by simp [lsub]) (ih _ (b.1.trans hA) hF2.cpy))
            | fail "stop")
  refine mw_aload_n dX7_mostBy_0 rfl ?_
  refine mw_cVV (g := fX7_thinks) dX7_mostBy_1 ml_X7_177 mfX7_thinks (ok_X7_thinks hM) (by assumption) rfl rfl (Nat.le_of_ble_eq_true rfl) ⟨by decide, by decide⟩ ⟨by decide, by decide⟩ ?_
  refine mw_iconst (v := 0) dX7_mostBy_4 (by decide) ?_
  refine mw_istore dX7_mostBy_5 (by decide) ?_
  refine mw_iconst (v := (-1)) dX7_mostBy_7 (by decide) ?_
  refine mw_istore dX7_mostBy_8 (by decide) ?_
  refine mw_iconst (v := 0) dX7_mostBy_10 (by decide) ?_
  refine mw_istore dX7_mostBy_11 (by decide) ?_
  exact MW.sub (by simp [lsub, nI_0, mostC]) (lp (m_cpy mi (o + 1) (o + 3) 0 0 1438) (thk_now.trans hA) (FrM.rf _ _))
