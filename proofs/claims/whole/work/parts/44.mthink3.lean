/-! the model: stands -/
def stC (f : Nat → Option Int32) : Nat → Int32 × Int32
  | 0 => (NONEi, -1)
  | v + 1 => match f v with
    | none => stC f v
    | some tk => if (stC f v).2 < tk then (nI v, tk) else stC f v
def stV (x : Int32) (k : Nat) : Int32 := x ||| (1 <<< (nI k &&& 31))
theorem stV_eq (x : Int32) (k : Nat) : x ||| (1 <<< (nI k &&& 31)) = stV x k := rfl
def stF (lw : LawT) (A : Nat → Int32) (n q : Nat) (v : Nat) : Option Int32 := if A 9 >>> (nI v &&& 31) &&& 1 = 0 then some (mHours lw n (upd A 9 (stV (A 9) v)) q 3) else none
def mStands (lw : LawT) (A : Nat → Int32) (n : Nat) (q w : Int32) : Int32 := if (1 ≤ q ∧ q ≤ 60) ∧ (0 ≤ w ∧ w ≤ 1) then (if (stC (stF lw A n q.toNatClampNeg) 24).1 = NONEi then NONEi else if w = 0 then (stC (stF lw A n q.toNatClampNeg) 24).1 else (stC (stF lw A n q.toNatClampNeg) 24).2) else BADi
theorem dX7_stands_0 : decode fX7_stands.2.1 0 = .ok (.iload_n 1, 1) := by decide +kernel
theorem dX7_stands_1 : decode fX7_stands.2.1 1 = .ok (.iconst 1, 1) := by decide +kernel
theorem dX7_stands_2 : decode fX7_stands.2.1 2 = .ok (.bipush 60, 2) := by decide +kernel
theorem dX7_stands_4 : decode fX7_stands.2.1 4 = .ok (.invokestatic 78, 3) := by decide +kernel
theorem dX7_stands_7 : decode fX7_stands.2.1 7 = .ok (.ifCond .eq 12, 3) := by decide +kernel
theorem dX7_stands_10 : decode fX7_stands.2.1 10 = .ok (.iload_n 2, 1) := by decide +kernel
theorem dX7_stands_11 : decode fX7_stands.2.1 11 = .ok (.iconst 0, 1) := by decide +kernel
theorem dX7_stands_12 : decode fX7_stands.2.1 12 = .ok (.iconst 1, 1) := by decide +kernel
theorem dX7_stands_13 : decode fX7_stands.2.1 13 = .ok (.invokestatic 78, 3) := by decide +kernel
theorem dX7_stands_16 : decode fX7_stands.2.1 16 = .ok (.ifCond .ne 6, 3) := by decide +kernel
theorem dX7_stands_19 : decode fX7_stands.2.1 19 = .ok (.ldc 127, 2) := by decide +kernel
theorem dX7_stands_21 : decode fX7_stands.2.1 21 = .ok (.ireturn, 1) := by decide +kernel
theorem dX7_stands_22 : decode fX7_stands.2.1 22 = .ok (.aload_n 0, 1) := by decide +kernel
theorem dX7_stands_23 : decode fX7_stands.2.1 23 = .ok (.invokevirtual 177, 3) := by decide +kernel
theorem dX7_stands_26 : decode fX7_stands.2.1 26 = .ok (.ldc 172, 2) := by decide +kernel
theorem dX7_stands_28 : decode fX7_stands.2.1 28 = .ok (.istore_n 3, 1) := by decide +kernel
theorem dX7_stands_29 : decode fX7_stands.2.1 29 = .ok (.iconst (-1), 1) := by decide +kernel
theorem dX7_stands_30 : decode fX7_stands.2.1 30 = .ok (.istore 4, 2) := by decide +kernel
theorem dX7_stands_32 : decode fX7_stands.2.1 32 = .ok (.iconst 0, 1) := by decide +kernel
theorem dX7_stands_33 : decode fX7_stands.2.1 33 = .ok (.istore 5, 2) := by decide +kernel
theorem dX7_stands_35 : decode fX7_stands.2.1 35 = .ok (.iload 5, 2) := by decide +kernel
theorem dX7_stands_37 : decode fX7_stands.2.1 37 = .ok (.bipush 24, 2) := by decide +kernel
theorem dX7_stands_39 : decode fX7_stands.2.1 39 = .ok (.if_icmp .ge 85, 3) := by decide +kernel
theorem dX7_stands_42 : decode fX7_stands.2.1 42 = .ok (.aload_n 0, 1) := by decide +kernel
theorem dX7_stands_43 : decode fX7_stands.2.1 43 = .ok (.getfield 9, 3) := by decide +kernel
theorem dX7_stands_46 : decode fX7_stands.2.1 46 = .ok (.bipush 9, 2) := by decide +kernel
theorem dX7_stands_48 : decode fX7_stands.2.1 48 = .ok (.iaload, 1) := by decide +kernel
theorem dX7_stands_49 : decode fX7_stands.2.1 49 = .ok (.iload 5, 2) := by decide +kernel
theorem dX7_stands_51 : decode fX7_stands.2.1 51 = .ok (.ishr, 1) := by decide +kernel
theorem dX7_stands_52 : decode fX7_stands.2.1 52 = .ok (.iconst 1, 1) := by decide +kernel
theorem dX7_stands_53 : decode fX7_stands.2.1 53 = .ok (.iand, 1) := by decide +kernel
theorem dX7_stands_54 : decode fX7_stands.2.1 54 = .ok (.ifCond .ne 64, 3) := by decide +kernel
theorem dX7_stands_57 : decode fX7_stands.2.1 57 = .ok (.aload_n 0, 1) := by decide +kernel
theorem dX7_stands_58 : decode fX7_stands.2.1 58 = .ok (.getfield 9, 3) := by decide +kernel
theorem dX7_stands_61 : decode fX7_stands.2.1 61 = .ok (.bipush 9, 2) := by decide +kernel
theorem dX7_stands_63 : decode fX7_stands.2.1 63 = .ok (.dup2, 1) := by decide +kernel
theorem dX7_stands_64 : decode fX7_stands.2.1 64 = .ok (.iaload, 1) := by decide +kernel
theorem dX7_stands_65 : decode fX7_stands.2.1 65 = .ok (.iconst 1, 1) := by decide +kernel
theorem dX7_stands_66 : decode fX7_stands.2.1 66 = .ok (.iload 5, 2) := by decide +kernel
theorem dX7_stands_68 : decode fX7_stands.2.1 68 = .ok (.ishl, 1) := by decide +kernel
theorem dX7_stands_69 : decode fX7_stands.2.1 69 = .ok (.ior, 1) := by decide +kernel
theorem dX7_stands_70 : decode fX7_stands.2.1 70 = .ok (.iastore, 1) := by decide +kernel
theorem dX7_stands_71 : decode fX7_stands.2.1 71 = .ok (.aload_n 0, 1) := by decide +kernel
theorem dX7_stands_72 : decode fX7_stands.2.1 72 = .ok (.iload_n 1, 1) := by decide +kernel
theorem dX7_stands_73 : decode fX7_stands.2.1 73 = .ok (.invokevirtual 163, 3) := by decide +kernel
theorem dX7_stands_76 : decode fX7_stands.2.1 76 = .ok (.aload_n 0, 1) := by decide +kernel
theorem dX7_stands_77 : decode fX7_stands.2.1 77 = .ok (.getfield 9, 3) := by decide +kernel
theorem dX7_stands_80 : decode fX7_stands.2.1 80 = .ok (.iconst 3, 1) := by decide +kernel
theorem dX7_stands_81 : decode fX7_stands.2.1 81 = .ok (.iaload, 1) := by decide +kernel
theorem dX7_stands_82 : decode fX7_stands.2.1 82 = .ok (.istore 6, 2) := by decide +kernel
theorem dX7_stands_84 : decode fX7_stands.2.1 84 = .ok (.iload 6, 2) := by decide +kernel
theorem dX7_stands_86 : decode fX7_stands.2.1 86 = .ok (.iload 4, 2) := by decide +kernel
theorem dX7_stands_88 : decode fX7_stands.2.1 88 = .ok (.if_icmp .le 8, 3) := by decide +kernel
theorem dX7_stands_91 : decode fX7_stands.2.1 91 = .ok (.iload 5, 2) := by decide +kernel
theorem dX7_stands_93 : decode fX7_stands.2.1 93 = .ok (.goto 4, 3) := by decide +kernel
theorem dX7_stands_96 : decode fX7_stands.2.1 96 = .ok (.iload_n 3, 1) := by decide +kernel
theorem dX7_stands_97 : decode fX7_stands.2.1 97 = .ok (.istore_n 3, 1) := by decide +kernel
theorem dX7_stands_98 : decode fX7_stands.2.1 98 = .ok (.iload 6, 2) := by decide +kernel
theorem dX7_stands_100 : decode fX7_stands.2.1 100 = .ok (.iload 4, 2) := by decide +kernel
theorem dX7_stands_102 : decode fX7_stands.2.1 102 = .ok (.if_icmp .le 8, 3) := by decide +kernel
theorem dX7_stands_105 : decode fX7_stands.2.1 105 = .ok (.iload 6, 2) := by decide +kernel
theorem dX7_stands_107 : decode fX7_stands.2.1 107 = .ok (.goto 5, 3) := by decide +kernel
theorem dX7_stands_110 : decode fX7_stands.2.1 110 = .ok (.iload 4, 2) := by decide +kernel
theorem dX7_stands_112 : decode fX7_stands.2.1 112 = .ok (.istore 4, 2) := by decide +kernel
theorem dX7_stands_114 : decode fX7_stands.2.1 114 = .ok (.aload_n 0, 1) := by decide +kernel
theorem dX7_stands_115 : decode fX7_stands.2.1 115 = .ok (.invokevirtual 180, 3) := by decide +kernel
theorem dX7_stands_118 : decode fX7_stands.2.1 118 = .ok (.iinc 5 1, 3) := by decide +kernel
theorem dX7_stands_121 : decode fX7_stands.2.1 121 = .ok (.goto (-86), 3) := by decide +kernel
theorem dX7_stands_124 : decode fX7_stands.2.1 124 = .ok (.iload_n 3, 1) := by decide +kernel
theorem dX7_stands_125 : decode fX7_stands.2.1 125 = .ok (.ldc 172, 2) := by decide +kernel
theorem dX7_stands_127 : decode fX7_stands.2.1 127 = .ok (.if_icmp .ne 8, 3) := by decide +kernel
theorem dX7_stands_130 : decode fX7_stands.2.1 130 = .ok (.ldc 172, 2) := by decide +kernel
theorem dX7_stands_132 : decode fX7_stands.2.1 132 = .ok (.goto 13, 3) := by decide +kernel
theorem dX7_stands_135 : decode fX7_stands.2.1 135 = .ok (.iload_n 2, 1) := by decide +kernel
theorem dX7_stands_136 : decode fX7_stands.2.1 136 = .ok (.ifCond .ne 7, 3) := by decide +kernel
theorem dX7_stands_139 : decode fX7_stands.2.1 139 = .ok (.iload_n 3, 1) := by decide +kernel
theorem dX7_stands_140 : decode fX7_stands.2.1 140 = .ok (.goto 5, 3) := by decide +kernel
theorem dX7_stands_143 : decode fX7_stands.2.1 143 = .ok (.iload 4, 2) := by decide +kernel
theorem dX7_stands_145 : decode fX7_stands.2.1 145 = .ok (.ireturn, 1) := by decide +kernel
set_option maxRecDepth 100000 in
set_option maxHeartbeats 4000000 in
theorem ok_X7_stands {X : Xb} {S : Sg} {mi : Mem} {o n t : Nat} {A : Nat → Int32} {lw : LawT} {q w : Int32} (hM : MdA S o) (hn8 : n ≤ 8) (hA : mi (o + 1) = A) (hn : A 1 = nI n) (ht : A 5 = nI t) (ht14 : t ≤ 14) (hx : MtOk A t) (hl : lwM A 0 t = lw) : Ok 8 0 0 fX7_stands X [rf X o, .int q, .int w] S mi (PK S mi o (mStands lw A n q w)) := by
  refine Ok.go [some (rf X o), some (.int q), some (.int w), none, none, none, none] (by decide) (by simp [Value.category]) (Nat.le_of_ble_eq_true rfl) rfl ?_
  obtain ⟨k_o, ⟨r_o_now, k_o_now⟩, ⟨r_o_image, k_o_image⟩, ⟨r_o_aside, k_o_aside⟩, ⟨r_o_seen, k_o_seen⟩, ⟨r_o_unlike, k_o_unlike⟩, ⟨r_o_tape, k_o_tape⟩, ⟨r_o_keys, k_o_keys⟩, ⟨r_o_keyAt, k_o_keyAt⟩, ⟨r_o_code, k_o_code⟩, ⟨r_o_waits, k_o_waits⟩, ⟨r_o_tested, k_o_tested⟩, ⟨r_o_stack, k_o_stack⟩, ⟨r_o_facts, k_o_facts⟩, ⟨r_o_sorts, k_o_sorts⟩, ⟨r_o_sizes, k_o_sizes⟩, ⟨r_o_cells, k_o_cells⟩, ⟨r_o_holds, k_o_holds⟩, ⟨r_o_holdsA, k_o_holdsA⟩, ⟨r_o_holdsB, k_o_holdsB⟩, ⟨r_o_heldCells, k_o_heldCells⟩, ⟨r_o_moved, k_o_moved⟩, ⟨r_o_tells, k_o_tells⟩⟩ := id hM
  have z : FrK o mi mi := fun _ _ _ _ _ => rfl
  have go : ∀ p, p ≤ 60 → (if (stC (stF lw A n p) 24).1 = NONEi then NONEi else if w = 0 then (stC (stF lw A n p) 24).1 else (stC (stF lw A n p) 24).2) = mStands lw A n q w → MW X fX7_stands (rmOf 8 0 0) 0 0 35 [some (rf X o), some (.int (nI p)), some (.int w), some (.int NONEi), some (.int (-1)), some (.int (nI 0)), none] [] S (m_cpy mi (o + 1) (o + 3) 0 0 1438) (mQ X 0 0 (PK S mi o (mStands lw A n q w))) := by
    intro p hp60 hR
    have lp := mw_dn (P := fun k => ∀ m, m (o + 1) = A → FrM o (m_cpy mi (o + 1) (o + 3) 0 0 1438) m → MW X fX7_stands (rmOf 8 0 0) 0 0 35 [some (rf X o), some (.int (nI p)), some (.int w), some (.int (stC (stF lw A n p) k).1), some (.int (stC (stF lw A n p) k).2), some (.int (nI k)), none] [] S m (mQ X 0 0 (PK S mi o (mStands lw A n q w)))) 24 (by
      intro m hm hF
      refine mw_iload dX7_stands_35 rfl ?_
      refine mw_bipush (v := 24) dX7_stands_37 (by decide) ?_
      refine mw_icmp_ge (tgt := 124) dX7_stands_39 (by decide) (fun h39 => ?_) (fun h39 => ?_)
      · skip
        refine mw_iload_n dX7_stands_124 rfl ?_
        refine mw_ldc dX7_stands_125 cn_X7_172 ?_
        refine mw_icmp_ne (tgt := 135) dX7_stands_127 (by decide) (fun h127 => ?_) (fun h127 => ?_)
        · skip
          refine mw_iload_n dX7_stands_135 rfl ?_
          refine mw_if_ne (tgt := 143) dX7_stands_136 (by decide) (fun h136 => ?_) (fun h136 => ?_)
          · skip
            refine mw_iload dX7_stands_143 rfl ?_
            exact mw_iret dX7_stands_145 rfl (by decide) (by decide) (⟨by first | rw [← hR, if_pos h127] | rw [← hR, if_neg h127, if_pos h136] | rw [← hR, if_neg h127, if_neg h136], rfl, hm.trans hA.symm, thk_frk hF⟩)
          · skip
            refine mw_iload_n dX7_stands_139 rfl ?_
            refine mw_goto (tgt := 145) dX7_stands_140 (by decide) ?_
            exact mw_iret dX7_stands_145 rfl (by decide) (by decide) (⟨by first | rw [← hR, if_pos h127] | rw [← hR, if_neg h127, if_pos h136] | rw [← hR, if_neg h127, if_neg h136], rfl, hm.trans hA.symm, thk_frk hF⟩)
        · skip
          refine mw_ldc dX7_stands_130 cn_X7_172 ?_
          refine mw_goto (tgt := 145) dX7_stands_132 (by decide) ?_
          exact mw_iret dX7_stands_145 rfl (by decide) (by decide) (⟨by first | rw [← hR, if_pos h127] | rw [← hR, if_neg h127, if_pos h136] | rw [← hR, if_neg h127, if_neg h136], rfl, hm.trans hA.symm, thk_frk hF⟩)
      · skip
        exact absurd (Int32.le_refl _) h39) (fun k hk ih => by
      intro m hm hF
      have e9 : m (o + 1) 9 = A 9 := by rw [hm]
      have hB : m_up m (o + 1) 9 (stV (A 9) k) (o + 1) = upd A 9 (stV (A 9) k) := by rw [m_up_row, hm]
      have tl : tail66 A (upd A 9 (stV (A 9) k)) := tail66_upd (by decide)
      have b1 : upd A 9 (stV (A 9) k) 1 = nI n := by rw [upd_ne (by decide)]; exact hn
      have b5 : upd A 9 (stV (A 9) k) 5 = nI t := by rw [upd_ne (by decide)]; exact ht
      simp only [stC] at ih
      refine mw_iload dX7_stands_35 rfl ?_
      refine mw_bipush (v := 24) dX7_stands_37 (by decide) ?_
      refine mw_icmp_ge (tgt := 124) dX7_stands_39 (by decide) (fun h39 => ?_) (fun h39 => ?_)
      · skip
        exact absurd h39 (nI_ge hk (by decide))
      · skip
        refine mw_aload_n dX7_stands_42 rfl ?_
        refine mw_getr dX7_stands_43 fl_X7_9 rfl (by assumption) (by assumption) ?_
        refine mw_bipush (v := 9) dX7_stands_46 (by decide) ?_
        refine mw_ialdK (k := 9) dX7_stands_48 (by assumption) (rfl) (by decide) (by decide) ?_
        rw [e9]
        refine mw_iload dX7_stands_49 rfl ?_
        refine mw_ishr dX7_stands_51 ?_
        refine mw_iconst (v := 1) dX7_stands_52 (by decide) ?_
        refine mw_iand dX7_stands_53 ?_
        refine mw_if_ne (tgt := 118) dX7_stands_54 (by decide) (fun h54 => ?_) (fun h54 => ?_)
        · skip
          refine mw_iincK (k := k) dX7_stands_118 rfl rfl (by decide) ?_
          refine mw_goto (tgt := 35) dX7_stands_121 (by decide) ?_
          first
            | exact absurd h88 h102
            | exact absurd h102 h88
            | (rw [show stF lw A n p k = none from by rw [stF, if_neg h54]] at ih; exact MW.sub (by simp [lsub]) (ih _ hm hF))
            | (rw [show stF lw A n p k = some _ from by rw [stF, if_pos h54]] at ih; simp only [if_pos (Int32.not_le.mp h88)] at ih; exact MW.sub (by simp [lsub]) (ih _ (b.1.trans hA) hF2.cpy))
            | (rw [show stF lw A n p k = some _ from by rw [stF, if_pos h54]] at ih; simp only [if_neg (Int32.not_lt.mpr h88)] at ih; exact MW.sub (by simp [lsub]) (ih _ (b.1.trans hA) hF2.cpy))
            | fail "stop"
        · skip
          refine mw_aload_n dX7_stands_57 rfl ?_
          refine mw_getr dX7_stands_58 fl_X7_9 rfl (by assumption) (by assumption) ?_
          refine mw_bipush (v := 9) dX7_stands_61 (by decide) ?_
          refine mw_dup2 dX7_stands_63 rfl rfl ?_
          refine mw_ialdK (k := 9) dX7_stands_64 (by assumption) (rfl) (by decide) (by decide) ?_
          rw [e9]
          refine mw_iconst (v := 1) dX7_stands_65 (by decide) ?_
          refine mw_iload dX7_stands_66 rfl ?_
          refine mw_ishl dX7_stands_68 ?_
          refine mw_ior dX7_stands_69 ?_
          rw [stV_eq]
          refine mw_iastK (k := 9) dX7_stands_70 (by assumption) (rfl) (by decide) (by decide) ?_
          refine mw_aload_n dX7_stands_71 rfl ?_
          refine mw_iload_n dX7_stands_72 rfl ?_
          refine mw_callV (g := fX7_goesOn) dX7_stands_73 ml_X7_163 mfX7_goesOn (ok_X7_goesOn (q := p) hM hn8 hB b1 b5 ht14 (hx.congr tl) ((lwM_congr tl).trans hl) (by omega)) (by assumption) rfl rfl (Nat.le_of_ble_eq_true rfl) ⟨by decide, by decide⟩ ⟨by decide, by decide⟩ (fun r S2 mi2 hp => ?_)
          obtain ⟨rfl, e1, e4, e5⟩ := hp
          rw [e1]
          have hF2 := hF.up.tr e5
          have b := thk_back hF2 (by rw [e4, hA]; exact fun j hj => (mHours_hi hn8 p j hj).trans (tl j hj))
          refine mw_aload_n dX7_stands_76 rfl ?_
          refine mw_getr dX7_stands_77 fl_X7_9 rfl (by assumption) (by assumption) ?_
          refine mw_iconst (v := 3) dX7_stands_80 (by decide) ?_
          refine mw_ialdK (k := 3) dX7_stands_81 (by assumption) (rfl) (by decide) (by decide) ?_
          rw [e4]
          refine mw_istore dX7_stands_82 (by decide) ?_
          refine mw_iload dX7_stands_84 rfl ?_
          refine mw_iload dX7_stands_86 rfl ?_
          refine mw_icmp_le (tgt := 96) dX7_stands_88 (by decide) (fun h88 => ?_) (fun h88 => ?_)
          · skip
            refine mw_iload_n dX7_stands_96 rfl ?_
            refine mw_istN 3 dX7_stands_97 rfl (by decide) ?_
            refine mw_iload dX7_stands_98 rfl ?_
            refine mw_iload dX7_stands_100 rfl ?_
            refine mw_icmp_le (tgt := 110) dX7_stands_102 (by decide) (fun h102 => ?_) (fun h102 => ?_)
            · skip
              refine mw_iload dX7_stands_110 rfl ?_
              refine mw_istore dX7_stands_112 (by decide) ?_
              refine mw_aload_n dX7_stands_114 rfl ?_
              refine mw_cVV (g := fX7_putsBack) dX7_stands_115 ml_X7_180 mfX7_putsBack (ok_X7_putsBack hM) (by assumption) rfl rfl (Nat.le_of_ble_eq_true rfl) ⟨by decide, by decide⟩ ⟨by decide, by decide⟩ ?_
              refine mw_iincK (k := k) dX7_stands_118 rfl rfl (by decide) ?_
              refine mw_goto (tgt := 35) dX7_stands_121 (by decide) ?_
              first
                | exact absurd h88 h102
                | exact absurd h102 h88
                | (rw [show stF lw A n p k = none from by rw [stF, if_neg h54]] at ih; exact MW.sub (by simp [lsub]) (ih _ hm hF))
                | (rw [show stF lw A n p k = some _ from by rw [stF, if_pos h54]] at ih; simp only [if_pos (Int32.not_le.mp h88)] at ih; exact MW.sub (by simp [lsub]) (ih _ (b.1.trans hA) hF2.cpy))
                | (rw [show stF lw A n p k = some _ from by rw [stF, if_pos h54]] at ih; simp only [if_neg (Int32.not_lt.mpr h88)] at ih; exact MW.sub (by simp [lsub]) (ih _ (b.1.trans hA) hF2.cpy))
                | fail "stop"
            · skip
              refine mw_iload dX7_stands_105 rfl ?_
              refine mw_goto (tgt := 112) dX7_stands_107 (by decide) ?_
              refine mw_istore dX7_stands_112 (by decide) ?_
              refine mw_aload_n dX7_stands_114 rfl ?_
              refine mw_cVV (g := fX7_putsBack) dX7_stands_115 ml_X7_180 mfX7_putsBack (ok_X7_putsBack hM) (by assumption) rfl rfl (Nat.le_of_ble_eq_true rfl) ⟨by decide, by decide⟩ ⟨by decide, by decide⟩ ?_
              refine mw_iincK (k := k) dX7_stands_118 rfl rfl (by decide) ?_
              refine mw_goto (tgt := 35) dX7_stands_121 (by decide) ?_
              first
                | exact absurd h88 h102
                | exact absurd h102 h88
                | (rw [show stF lw A n p k = none from by rw [stF, if_neg h54]] at ih; exact MW.sub (by simp [lsub]) (ih _ hm hF))
                | (rw [show stF lw A n p k = some _ from by rw [stF, if_pos h54]] at ih; simp only [if_pos (Int32.not_le.mp h88)] at ih; exact MW.sub (by simp [lsub]) (ih _ (b.1.trans hA) hF2.cpy))
                | (rw [show stF lw A n p k = some _ from by rw [stF, if_pos h54]] at ih; simp only [if_neg (Int32.not_lt.mpr h88)] at ih; exact MW.sub (by simp [lsub]) (ih _ (b.1.trans hA) hF2.cpy))
                | fail "stop"
          · skip
            refine mw_iload dX7_stands_91 rfl ?_
            refine mw_goto (tgt := 97) dX7_stands_93 (by decide) ?_
            refine mw_istN 3 dX7_stands_97 rfl (by decide) ?_
            refine mw_iload dX7_stands_98 rfl ?_
            refine mw_iload dX7_stands_100 rfl ?_
            refine mw_icmp_le (tgt := 110) dX7_stands_102 (by decide) (fun h102 => ?_) (fun h102 => ?_)
            · skip
              refine mw_iload dX7_stands_110 rfl ?_
              refine mw_istore dX7_stands_112 (by decide) ?_
              refine mw_aload_n dX7_stands_114 rfl ?_
              refine mw_cVV (g := fX7_putsBack) dX7_stands_115 ml_X7_180 mfX7_putsBack (ok_X7_putsBack hM) (by assumption) rfl rfl (Nat.le_of_ble_eq_true rfl) ⟨by decide, by decide⟩ ⟨by decide, by decide⟩ ?_
              refine mw_iincK (k := k) dX7_stands_118 rfl rfl (by decide) ?_
              refine mw_goto (tgt := 35) dX7_stands_121 (by decide) ?_
              first
                | exact absurd h88 h102
                | exact absurd h102 h88
                | (rw [show stF lw A n p k = none from by rw [stF, if_neg h54]] at ih; exact MW.sub (by simp [lsub]) (ih _ hm hF))
                | (rw [show stF lw A n p k = some _ from by rw [stF, if_pos h54]] at ih; simp only [if_pos (Int32.not_le.mp h88)] at ih; exact MW.sub (by simp [lsub]) (ih _ (b.1.trans hA) hF2.cpy))
                | (rw [show stF lw A n p k = some _ from by rw [stF, if_pos h54]] at ih; simp only [if_neg (Int32.not_lt.mpr h88)] at ih; exact MW.sub (by simp [lsub]) (ih _ (b.1.trans hA) hF2.cpy))
                | fail "stop"
            · skip
              refine mw_iload dX7_stands_105 rfl ?_
              refine mw_goto (tgt := 112) dX7_stands_107 (by decide) ?_
              refine mw_istore dX7_stands_112 (by decide) ?_
              refine mw_aload_n dX7_stands_114 rfl ?_
              refine mw_cVV (g := fX7_putsBack) dX7_stands_115 ml_X7_180 mfX7_putsBack (ok_X7_putsBack hM) (by assumption) rfl rfl (Nat.le_of_ble_eq_true rfl) ⟨by decide, by decide⟩ ⟨by decide, by decide⟩ ?_
              refine mw_iincK (k := k) dX7_stands_118 rfl rfl (by decide) ?_
              refine mw_goto (tgt := 35) dX7_stands_121 (by decide) ?_
              first
                | exact absurd h88 h102
                | exact absurd h102 h88
                | (rw [show stF lw A n p k = none from by rw [stF, if_neg h54]] at ih; exact MW.sub (by simp [lsub]) (ih _ hm hF))
                | (rw [show stF lw A n p k = some _ from by rw [stF, if_pos h54]] at ih; simp only [if_pos (Int32.not_le.mp h88)] at ih; exact MW.sub (by simp [lsub]) (ih _ (b.1.trans hA) hF2.cpy))
                | (rw [show stF lw A n p k = some _ from by rw [stF, if_pos h54]] at ih; simp only [if_neg (Int32.not_lt.mpr h88)] at ih; exact MW.sub (by simp [lsub]) (ih _ (b.1.trans hA) hF2.cpy))
                | fail "stop")
    exact MW.sub (by simp [lsub, stC]) (lp (m_cpy mi (o + 1) (o + 3) 0 0 1438) (thk_now.trans hA) (FrM.rf _ _))
  refine mw_iload_n dX7_stands_0 rfl ?_
  refine mw_iconst (v := 1) dX7_stands_1 (by decide) ?_
  refine mw_bipush (v := 60) dX7_stands_2 (by decide) ?_
  refine mw_cSI (g := fX7_in) dX7_stands_4 ml_X7_78 mfX7_in (ok_X7_in) rfl rfl (Nat.le_of_ble_eq_true rfl) ⟨by decide, by decide⟩ ⟨by decide, by decide⟩ ?_
  refine mw_if_eqB (tgt := 19) dX7_stands_7 (by decide) (fun h7 => ?_) (fun h7 => ?_)
  · skip
    refine mw_ldc dX7_stands_19 cn_X7_127 ?_
    exact mw_iret dX7_stands_21 rfl (by decide) (by decide) (by rw [mStands, if_neg (by grind)]; exact ⟨rfl, rfl, rfl, z⟩)
  · skip
    refine mw_iload_n dX7_stands_10 rfl ?_
    refine mw_iconst (v := 0) dX7_stands_11 (by decide) ?_
    refine mw_iconst (v := 1) dX7_stands_12 (by decide) ?_
    refine mw_cSI (g := fX7_in) dX7_stands_13 ml_X7_78 mfX7_in (ok_X7_in) rfl rfl (Nat.le_of_ble_eq_true rfl) ⟨by decide, by decide⟩ ⟨by decide, by decide⟩ ?_
    refine mw_if_neB (tgt := 22) dX7_stands_16 (by decide) (fun h16 => ?_) (fun h16 => ?_)
    · skip
      refine mw_aload_n dX7_stands_22 rfl ?_
      refine mw_cVV (g := fX7_thinks) dX7_stands_23 ml_X7_177 mfX7_thinks (ok_X7_thinks hM) (by assumption) rfl rfl (Nat.le_of_ble_eq_true rfl) ⟨by decide, by decide⟩ ⟨by decide, by decide⟩ ?_
      refine mw_ldc dX7_stands_26 cn_X7_172 ?_
      refine mw_istN 3 dX7_stands_28 rfl (by decide) ?_
      refine mw_iconst (v := (-1)) dX7_stands_29 (by decide) ?_
      refine mw_istore dX7_stands_30 (by decide) ?_
      refine mw_iconst (v := 0) dX7_stands_32 (by decide) ?_
      refine mw_istore dX7_stands_33 (by decide) ?_
      obtain ⟨p, hp, hv⟩ := in160 h7
      have gg := go p hp (by rw [mStands, if_pos (show (1 ≤ q ∧ q ≤ 60) ∧ (0 ≤ w ∧ w ≤ 1) from ⟨h7, h16⟩), hv, nI_clamp (by omega)])
      rw [← hv] at gg
      exact MW.sub (by simp [lsub, nI_0]) gg
    · skip
      refine mw_ldc dX7_stands_19 cn_X7_127 ?_
      exact mw_iret dX7_stands_21 rfl (by decide) (by decide) (by rw [mStands, if_neg (by grind)]; exact ⟨rfl, rfl, rfl, z⟩)
def mTurned (lw : LawT) (A : Nat → Int32) (n : Nat) (v q w : Int32) : Int32 := if (0 ≤ v ∧ v ≤ nI n - 1) ∧ (1 ≤ q ∧ q ≤ 60) ∧ (0 ≤ w ∧ w ≤ 1) then mMost lw A n (26 + 5 * v.toNatClampNeg + 1) 24 q.toNatClampNeg w else BADi
theorem dX7_turned_0 : decode fX7_turned.2.1 0 = .ok (.aload_n 0, 1) := by decide +kernel
theorem dX7_turned_1 : decode fX7_turned.2.1 1 = .ok (.iload_n 1, 1) := by decide +kernel
theorem dX7_turned_2 : decode fX7_turned.2.1 2 = .ok (.invokevirtual 132, 3) := by decide +kernel
theorem dX7_turned_5 : decode fX7_turned.2.1 5 = .ok (.ifCond .eq 41, 3) := by decide +kernel
theorem dX7_turned_8 : decode fX7_turned.2.1 8 = .ok (.iload_n 2, 1) := by decide +kernel
theorem dX7_turned_9 : decode fX7_turned.2.1 9 = .ok (.iconst 1, 1) := by decide +kernel
theorem dX7_turned_10 : decode fX7_turned.2.1 10 = .ok (.bipush 60, 2) := by decide +kernel
theorem dX7_turned_12 : decode fX7_turned.2.1 12 = .ok (.invokestatic 78, 3) := by decide +kernel
theorem dX7_turned_15 : decode fX7_turned.2.1 15 = .ok (.ifCond .eq 31, 3) := by decide +kernel
theorem dX7_turned_18 : decode fX7_turned.2.1 18 = .ok (.iload_n 3, 1) := by decide +kernel
theorem dX7_turned_19 : decode fX7_turned.2.1 19 = .ok (.iconst 0, 1) := by decide +kernel
theorem dX7_turned_20 : decode fX7_turned.2.1 20 = .ok (.iconst 1, 1) := by decide +kernel
theorem dX7_turned_21 : decode fX7_turned.2.1 21 = .ok (.invokestatic 78, 3) := by decide +kernel
theorem dX7_turned_24 : decode fX7_turned.2.1 24 = .ok (.ifCond .eq 22, 3) := by decide +kernel
theorem dX7_turned_27 : decode fX7_turned.2.1 27 = .ok (.aload_n 0, 1) := by decide +kernel
theorem dX7_turned_28 : decode fX7_turned.2.1 28 = .ok (.bipush 26, 2) := by decide +kernel
theorem dX7_turned_30 : decode fX7_turned.2.1 30 = .ok (.iconst 5, 1) := by decide +kernel
theorem dX7_turned_31 : decode fX7_turned.2.1 31 = .ok (.iload_n 1, 1) := by decide +kernel
theorem dX7_turned_32 : decode fX7_turned.2.1 32 = .ok (.imul, 1) := by decide +kernel
theorem dX7_turned_33 : decode fX7_turned.2.1 33 = .ok (.iadd, 1) := by decide +kernel
theorem dX7_turned_34 : decode fX7_turned.2.1 34 = .ok (.iconst 1, 1) := by decide +kernel
theorem dX7_turned_35 : decode fX7_turned.2.1 35 = .ok (.iadd, 1) := by decide +kernel
theorem dX7_turned_36 : decode fX7_turned.2.1 36 = .ok (.bipush 24, 2) := by decide +kernel
theorem dX7_turned_38 : decode fX7_turned.2.1 38 = .ok (.iload_n 2, 1) := by decide +kernel
theorem dX7_turned_39 : decode fX7_turned.2.1 39 = .ok (.iload_n 3, 1) := by decide +kernel
theorem dX7_turned_40 : decode fX7_turned.2.1 40 = .ok (.invokevirtual 183, 3) := by decide +kernel
theorem dX7_turned_43 : decode fX7_turned.2.1 43 = .ok (.goto 5, 3) := by decide +kernel
theorem dX7_turned_46 : decode fX7_turned.2.1 46 = .ok (.ldc 127, 2) := by decide +kernel
theorem dX7_turned_48 : decode fX7_turned.2.1 48 = .ok (.ireturn, 1) := by decide +kernel
set_option maxRecDepth 100000 in
set_option maxHeartbeats 4000000 in
theorem ok_X7_turned {X : Xb} {S : Sg} {mi : Mem} {o n t : Nat} {A : Nat → Int32} {lw : LawT} {v q w : Int32} (hM : MdA S o) (hn8 : n ≤ 8) (hA : mi (o + 1) = A) (hn : A 1 = nI n) (ht : A 5 = nI t) (ht14 : t ≤ 14) (hx : MtOk A t) (hl : lwM A 0 t = lw) : Ok 9 0 0 fX7_turned X [rf X o, .int v, .int q, .int w] S mi (PK S mi o (mTurned lw A n v q w)) := by
  refine Ok.go [some (rf X o), some (.int v), some (.int q), some (.int w)] (by decide) (by simp [Value.category]) (Nat.le_of_ble_eq_true rfl) rfl ?_
  obtain ⟨k_o, ⟨r_o_now, k_o_now⟩, ⟨r_o_image, k_o_image⟩, ⟨r_o_aside, k_o_aside⟩, ⟨r_o_seen, k_o_seen⟩, ⟨r_o_unlike, k_o_unlike⟩, ⟨r_o_tape, k_o_tape⟩, ⟨r_o_keys, k_o_keys⟩, ⟨r_o_keyAt, k_o_keyAt⟩, ⟨r_o_code, k_o_code⟩, ⟨r_o_waits, k_o_waits⟩, ⟨r_o_tested, k_o_tested⟩, ⟨r_o_stack, k_o_stack⟩, ⟨r_o_facts, k_o_facts⟩, ⟨r_o_sorts, k_o_sorts⟩, ⟨r_o_sizes, k_o_sizes⟩, ⟨r_o_cells, k_o_cells⟩, ⟨r_o_holds, k_o_holds⟩, ⟨r_o_holdsA, k_o_holdsA⟩, ⟨r_o_holdsB, k_o_holdsB⟩, ⟨r_o_heldCells, k_o_heldCells⟩, ⟨r_o_moved, k_o_moved⟩, ⟨r_o_tells, k_o_tells⟩⟩ := id hM
  have en : mi (o + 1) 1 = nI n := by rw [hA, hn]
  have z : FrK o mi mi := fun _ _ _ _ _ => rfl
  have go : (0 ≤ v ∧ v ≤ nI n - 1) → (1 ≤ q ∧ q ≤ 60) → (0 ≤ w ∧ w ≤ 1) → Ok 8 0 0 fX7_mostBy X [rf X o, .int ((26 : Int32) + 5 * v + 1), .int 24, .int q, .int w] S mi (PK S mi o (mTurned lw A n v q w)) := by
    intro g1 g2 g3
    rw [mTurned, if_pos ⟨g1, g2, g3⟩]
    obtain ⟨a, han, rfl⟩ := inAt g1 hn8
    obtain ⟨p, hp, rfl⟩ := in160 g2
    rw [nI_clamp (by omega), nI_clamp (by omega)]
    have e : (26 : Int32) + 5 * nI a + 1 = nI (26 + 5 * a + 1) := ixA a 1
    rw [e]
    exact ok_X7_mostBy (N := 24) hM hn8 hA hn ht ht14 hx hl (by omega) (by omega) (by omega) hp
  refine mw_aload_n dX7_turned_0 rfl ?_
  refine mw_iload_n dX7_turned_1 rfl ?_
  refine mw_cVI (g := fX7_isAttic) dX7_turned_2 ml_X7_132 mfX7_isAttic (ok_X7_isAttic hM) (by assumption) rfl rfl (Nat.le_of_ble_eq_true rfl) ⟨by decide, by decide⟩ ⟨by decide, by decide⟩ ?_
  rw [en]
  refine mw_if_eqB (tgt := 46) dX7_turned_5 (by decide) (fun h5 => ?_) (fun h5 => ?_)
  · skip
    refine mw_ldc dX7_turned_46 cn_X7_127 ?_
    exact mw_iret dX7_turned_48 rfl (by decide) (by decide) (by first | exact ⟨rfl, e1, e2⟩ | (rw [mTurned, if_neg (by grind)]; exact ⟨rfl, rfl, rfl, z⟩) | fail "leaf")
  · skip
    refine mw_iload_n dX7_turned_8 rfl ?_
    refine mw_iconst (v := 1) dX7_turned_9 (by decide) ?_
    refine mw_bipush (v := 60) dX7_turned_10 (by decide) ?_
    refine mw_cSI (g := fX7_in) dX7_turned_12 ml_X7_78 mfX7_in (ok_X7_in) rfl rfl (Nat.le_of_ble_eq_true rfl) ⟨by decide, by decide⟩ ⟨by decide, by decide⟩ ?_
    refine mw_if_eqB (tgt := 46) dX7_turned_15 (by decide) (fun h15 => ?_) (fun h15 => ?_)
    · skip
      refine mw_ldc dX7_turned_46 cn_X7_127 ?_
      exact mw_iret dX7_turned_48 rfl (by decide) (by decide) (by first | exact ⟨rfl, e1, e2⟩ | (rw [mTurned, if_neg (by grind)]; exact ⟨rfl, rfl, rfl, z⟩) | fail "leaf")
    · skip
      refine mw_iload_n dX7_turned_18 rfl ?_
      refine mw_iconst (v := 0) dX7_turned_19 (by decide) ?_
      refine mw_iconst (v := 1) dX7_turned_20 (by decide) ?_
      refine mw_cSI (g := fX7_in) dX7_turned_21 ml_X7_78 mfX7_in (ok_X7_in) rfl rfl (Nat.le_of_ble_eq_true rfl) ⟨by decide, by decide⟩ ⟨by decide, by decide⟩ ?_
      refine mw_if_eqB (tgt := 46) dX7_turned_24 (by decide) (fun h24 => ?_) (fun h24 => ?_)
      · skip
        refine mw_ldc dX7_turned_46 cn_X7_127 ?_
        exact mw_iret dX7_turned_48 rfl (by decide) (by decide) (by first | exact ⟨rfl, e1, e2⟩ | (rw [mTurned, if_neg (by grind)]; exact ⟨rfl, rfl, rfl, z⟩) | fail "leaf")
      · skip
        refine mw_aload_n dX7_turned_27 rfl ?_
        refine mw_bipush (v := 26) dX7_turned_28 (by decide) ?_
        refine mw_iconst (v := 5) dX7_turned_30 (by decide) ?_
        refine mw_iload_n dX7_turned_31 rfl ?_
        refine mw_imul dX7_turned_32 ?_
        refine mw_iadd dX7_turned_33 ?_
        refine mw_iconst (v := 1) dX7_turned_34 (by decide) ?_
        refine mw_iadd dX7_turned_35 ?_
        refine mw_bipush (v := 24) dX7_turned_36 (by decide) ?_
        refine mw_iload_n dX7_turned_38 rfl ?_
        refine mw_iload_n dX7_turned_39 rfl ?_
        refine mw_callV (g := fX7_mostBy) dX7_turned_40 ml_X7_183 mfX7_mostBy (go h5 h15 h24) (by assumption) rfl rfl (Nat.le_of_ble_eq_true rfl) ⟨by decide, by decide⟩ ⟨by decide, by decide⟩ (fun r S2 mi2 hp => ?_)
        obtain ⟨rfl, e1, e2⟩ := hp
        refine mw_goto (tgt := 48) dX7_turned_43 (by decide) ?_
        exact mw_iret dX7_turned_48 rfl (by decide) (by decide) (by first | exact ⟨rfl, e1, e2⟩ | (rw [mTurned, if_neg (by grind)]; exact ⟨rfl, rfl, rfl, z⟩) | fail "leaf")
def mBecomes (lw : LawT) (A : Nat → Int32) (n : Nat) (v q w : Int32) : Int32 := if (0 ≤ v ∧ v ≤ nI n - 1) ∧ (1 ≤ q ∧ q ≤ 60) ∧ (0 ≤ w ∧ w ≤ 1) then mMost lw A n (26 + 5 * v.toNatClampNeg) 6 q.toNatClampNeg w else BADi
theorem dX7_becomes_0 : decode fX7_becomes.2.1 0 = .ok (.aload_n 0, 1) := by decide +kernel
theorem dX7_becomes_1 : decode fX7_becomes.2.1 1 = .ok (.iload_n 1, 1) := by decide +kernel
theorem dX7_becomes_2 : decode fX7_becomes.2.1 2 = .ok (.invokevirtual 132, 3) := by decide +kernel
theorem dX7_becomes_5 : decode fX7_becomes.2.1 5 = .ok (.ifCond .eq 39, 3) := by decide +kernel
theorem dX7_becomes_8 : decode fX7_becomes.2.1 8 = .ok (.iload_n 2, 1) := by decide +kernel
theorem dX7_becomes_9 : decode fX7_becomes.2.1 9 = .ok (.iconst 1, 1) := by decide +kernel
theorem dX7_becomes_10 : decode fX7_becomes.2.1 10 = .ok (.bipush 60, 2) := by decide +kernel
theorem dX7_becomes_12 : decode fX7_becomes.2.1 12 = .ok (.invokestatic 78, 3) := by decide +kernel
theorem dX7_becomes_15 : decode fX7_becomes.2.1 15 = .ok (.ifCond .eq 29, 3) := by decide +kernel
theorem dX7_becomes_18 : decode fX7_becomes.2.1 18 = .ok (.iload_n 3, 1) := by decide +kernel
theorem dX7_becomes_19 : decode fX7_becomes.2.1 19 = .ok (.iconst 0, 1) := by decide +kernel
theorem dX7_becomes_20 : decode fX7_becomes.2.1 20 = .ok (.iconst 1, 1) := by decide +kernel
theorem dX7_becomes_21 : decode fX7_becomes.2.1 21 = .ok (.invokestatic 78, 3) := by decide +kernel
theorem dX7_becomes_24 : decode fX7_becomes.2.1 24 = .ok (.ifCond .eq 20, 3) := by decide +kernel
theorem dX7_becomes_27 : decode fX7_becomes.2.1 27 = .ok (.aload_n 0, 1) := by decide +kernel
theorem dX7_becomes_28 : decode fX7_becomes.2.1 28 = .ok (.bipush 26, 2) := by decide +kernel
theorem dX7_becomes_30 : decode fX7_becomes.2.1 30 = .ok (.iconst 5, 1) := by decide +kernel
theorem dX7_becomes_31 : decode fX7_becomes.2.1 31 = .ok (.iload_n 1, 1) := by decide +kernel
theorem dX7_becomes_32 : decode fX7_becomes.2.1 32 = .ok (.imul, 1) := by decide +kernel
theorem dX7_becomes_33 : decode fX7_becomes.2.1 33 = .ok (.iadd, 1) := by decide +kernel
theorem dX7_becomes_34 : decode fX7_becomes.2.1 34 = .ok (.bipush 6, 2) := by decide +kernel
theorem dX7_becomes_36 : decode fX7_becomes.2.1 36 = .ok (.iload_n 2, 1) := by decide +kernel
theorem dX7_becomes_37 : decode fX7_becomes.2.1 37 = .ok (.iload_n 3, 1) := by decide +kernel
theorem dX7_becomes_38 : decode fX7_becomes.2.1 38 = .ok (.invokevirtual 183, 3) := by decide +kernel
theorem dX7_becomes_41 : decode fX7_becomes.2.1 41 = .ok (.goto 5, 3) := by decide +kernel
theorem dX7_becomes_44 : decode fX7_becomes.2.1 44 = .ok (.ldc 127, 2) := by decide +kernel
theorem dX7_becomes_46 : decode fX7_becomes.2.1 46 = .ok (.ireturn, 1) := by decide +kernel
set_option maxRecDepth 100000 in
set_option maxHeartbeats 4000000 in
theorem ok_X7_becomes {X : Xb} {S : Sg} {mi : Mem} {o n t : Nat} {A : Nat → Int32} {lw : LawT} {v q w : Int32} (hM : MdA S o) (hn8 : n ≤ 8) (hA : mi (o + 1) = A) (hn : A 1 = nI n) (ht : A 5 = nI t) (ht14 : t ≤ 14) (hx : MtOk A t) (hl : lwM A 0 t = lw) : Ok 9 0 0 fX7_becomes X [rf X o, .int v, .int q, .int w] S mi (PK S mi o (mBecomes lw A n v q w)) := by
  refine Ok.go [some (rf X o), some (.int v), some (.int q), some (.int w)] (by decide) (by simp [Value.category]) (Nat.le_of_ble_eq_true rfl) rfl ?_
  obtain ⟨k_o, ⟨r_o_now, k_o_now⟩, ⟨r_o_image, k_o_image⟩, ⟨r_o_aside, k_o_aside⟩, ⟨r_o_seen, k_o_seen⟩, ⟨r_o_unlike, k_o_unlike⟩, ⟨r_o_tape, k_o_tape⟩, ⟨r_o_keys, k_o_keys⟩, ⟨r_o_keyAt, k_o_keyAt⟩, ⟨r_o_code, k_o_code⟩, ⟨r_o_waits, k_o_waits⟩, ⟨r_o_tested, k_o_tested⟩, ⟨r_o_stack, k_o_stack⟩, ⟨r_o_facts, k_o_facts⟩, ⟨r_o_sorts, k_o_sorts⟩, ⟨r_o_sizes, k_o_sizes⟩, ⟨r_o_cells, k_o_cells⟩, ⟨r_o_holds, k_o_holds⟩, ⟨r_o_holdsA, k_o_holdsA⟩, ⟨r_o_holdsB, k_o_holdsB⟩, ⟨r_o_heldCells, k_o_heldCells⟩, ⟨r_o_moved, k_o_moved⟩, ⟨r_o_tells, k_o_tells⟩⟩ := id hM
  have en : mi (o + 1) 1 = nI n := by rw [hA, hn]
  have z : FrK o mi mi := fun _ _ _ _ _ => rfl
  have go : (0 ≤ v ∧ v ≤ nI n - 1) → (1 ≤ q ∧ q ≤ 60) → (0 ≤ w ∧ w ≤ 1) → Ok 8 0 0 fX7_mostBy X [rf X o, .int ((26 : Int32) + 5 * v), .int 6, .int q, .int w] S mi (PK S mi o (mBecomes lw A n v q w)) := by
    intro g1 g2 g3
    rw [mBecomes, if_pos ⟨g1, g2, g3⟩]
    obtain ⟨a, han, rfl⟩ := inAt g1 hn8
    obtain ⟨p, hp, rfl⟩ := in160 g2
    rw [nI_clamp (by omega), nI_clamp (by omega)]
    have e : (26 : Int32) + 5 * nI a = nI (26 + 5 * a) := (show (26 : Int32) + 5 * nI a = nI (26 + 5 * a) from by { show nI 26 + nI 5 * nI a = _; rw [nI_mul, nI_add] })
    rw [e]
    exact ok_X7_mostBy (N := 6) hM hn8 hA hn ht ht14 hx hl (by omega) (by omega) (by omega) hp
  refine mw_aload_n dX7_becomes_0 rfl ?_
  refine mw_iload_n dX7_becomes_1 rfl ?_
  refine mw_cVI (g := fX7_isAttic) dX7_becomes_2 ml_X7_132 mfX7_isAttic (ok_X7_isAttic hM) (by assumption) rfl rfl (Nat.le_of_ble_eq_true rfl) ⟨by decide, by decide⟩ ⟨by decide, by decide⟩ ?_
  rw [en]
  refine mw_if_eqB (tgt := 44) dX7_becomes_5 (by decide) (fun h5 => ?_) (fun h5 => ?_)
  · skip
    refine mw_ldc dX7_becomes_44 cn_X7_127 ?_
    exact mw_iret dX7_becomes_46 rfl (by decide) (by decide) (by first | exact ⟨rfl, e1, e2⟩ | (rw [mBecomes, if_neg (by grind)]; exact ⟨rfl, rfl, rfl, z⟩) | fail "leaf")
  · skip
    refine mw_iload_n dX7_becomes_8 rfl ?_
    refine mw_iconst (v := 1) dX7_becomes_9 (by decide) ?_
    refine mw_bipush (v := 60) dX7_becomes_10 (by decide) ?_
    refine mw_cSI (g := fX7_in) dX7_becomes_12 ml_X7_78 mfX7_in (ok_X7_in) rfl rfl (Nat.le_of_ble_eq_true rfl) ⟨by decide, by decide⟩ ⟨by decide, by decide⟩ ?_
    refine mw_if_eqB (tgt := 44) dX7_becomes_15 (by decide) (fun h15 => ?_) (fun h15 => ?_)
    · skip
      refine mw_ldc dX7_becomes_44 cn_X7_127 ?_
      exact mw_iret dX7_becomes_46 rfl (by decide) (by decide) (by first | exact ⟨rfl, e1, e2⟩ | (rw [mBecomes, if_neg (by grind)]; exact ⟨rfl, rfl, rfl, z⟩) | fail "leaf")
    · skip
      refine mw_iload_n dX7_becomes_18 rfl ?_
      refine mw_iconst (v := 0) dX7_becomes_19 (by decide) ?_
      refine mw_iconst (v := 1) dX7_becomes_20 (by decide) ?_
      refine mw_cSI (g := fX7_in) dX7_becomes_21 ml_X7_78 mfX7_in (ok_X7_in) rfl rfl (Nat.le_of_ble_eq_true rfl) ⟨by decide, by decide⟩ ⟨by decide, by decide⟩ ?_
      refine mw_if_eqB (tgt := 44) dX7_becomes_24 (by decide) (fun h24 => ?_) (fun h24 => ?_)
      · skip
        refine mw_ldc dX7_becomes_44 cn_X7_127 ?_
        exact mw_iret dX7_becomes_46 rfl (by decide) (by decide) (by first | exact ⟨rfl, e1, e2⟩ | (rw [mBecomes, if_neg (by grind)]; exact ⟨rfl, rfl, rfl, z⟩) | fail "leaf")
      · skip
        refine mw_aload_n dX7_becomes_27 rfl ?_
        refine mw_bipush (v := 26) dX7_becomes_28 (by decide) ?_
        refine mw_iconst (v := 5) dX7_becomes_30 (by decide) ?_
        refine mw_iload_n dX7_becomes_31 rfl ?_
        refine mw_imul dX7_becomes_32 ?_
        refine mw_iadd dX7_becomes_33 ?_
        refine mw_bipush (v := 6) dX7_becomes_34 (by decide) ?_
        refine mw_iload_n dX7_becomes_36 rfl ?_
        refine mw_iload_n dX7_becomes_37 rfl ?_
        refine mw_callV (g := fX7_mostBy) dX7_becomes_38 ml_X7_183 mfX7_mostBy (go h5 h15 h24) (by assumption) rfl rfl (Nat.le_of_ble_eq_true rfl) ⟨by decide, by decide⟩ ⟨by decide, by decide⟩ (fun r S2 mi2 hp => ?_)
        obtain ⟨rfl, e1, e2⟩ := hp
        refine mw_goto (tgt := 46) dX7_becomes_41 (by decide) ?_
        exact mw_iret dX7_becomes_46 rfl (by decide) (by decide) (by first | exact ⟨rfl, e1, e2⟩ | (rw [mBecomes, if_neg (by grind)]; exact ⟨rfl, rfl, rfl, z⟩) | fail "leaf")
