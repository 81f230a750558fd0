/-! the reading of a piece, of what is joined -/
theorem tk_j {b : Nat → Int32} {len p : Nat} (h : srtN b len p = 1) : ∃ j, j < 128 ∧ b p = nI j := by
  unfold srtN at h
  split at h
  · split at h
    · rename_i g
      obtain ⟨j, hj, e⟩ := nI_of (x := b p) (Int32.not_lt.mpr (Int32.le_trans (by decide) g.1))
      refine ⟨j, ?_, e⟩
      rw [e] at g
      have := (nI_leI (b := 122) hj (by decide)).mp g.2
      omega
    · split at h <;> simp at h
  · simp at h
theorem dX3_readPiece_0 : decode fX3_readPiece.2.1 0 = .ok (.aload_n 0, 1) := by decide +kernel
theorem dX3_readPiece_1 : decode fX3_readPiece.2.1 1 = .ok (.getfield 25, 3) := by decide +kernel
theorem dX3_readPiece_4 : decode fX3_readPiece.2.1 4 = .ok (.iconst 2, 1) := by decide +kernel
theorem dX3_readPiece_5 : decode fX3_readPiece.2.1 5 = .ok (.if_icmp .ne 33, 3) := by decide +kernel
theorem dX3_readPiece_8 : decode fX3_readPiece.2.1 8 = .ok (.aload_n 0, 1) := by decide +kernel
theorem dX3_readPiece_9 : decode fX3_readPiece.2.1 9 = .ok (.getfield 22, 3) := by decide +kernel
theorem dX3_readPiece_12 : decode fX3_readPiece.2.1 12 = .ok (.aload_n 0, 1) := by decide +kernel
theorem dX3_readPiece_13 : decode fX3_readPiece.2.1 13 = .ok (.getfield 59, 3) := by decide +kernel
theorem dX3_readPiece_16 : decode fX3_readPiece.2.1 16 = .ok (.isub, 1) := by decide +kernel
theorem dX3_readPiece_17 : decode fX3_readPiece.2.1 17 = .ok (.iconst 4, 1) := by decide +kernel
theorem dX3_readPiece_18 : decode fX3_readPiece.2.1 18 = .ok (.if_icmp .gt 18, 3) := by decide +kernel
theorem dX3_readPiece_21 : decode fX3_readPiece.2.1 21 = .ok (.aload_n 0, 1) := by decide +kernel
theorem dX3_readPiece_22 : decode fX3_readPiece.2.1 22 = .ok (.aload_n 0, 1) := by decide +kernel
theorem dX3_readPiece_23 : decode fX3_readPiece.2.1 23 = .ok (.invokevirtual 98, 3) := by decide +kernel
theorem dX3_readPiece_26 : decode fX3_readPiece.2.1 26 = .ok (.invokevirtual 101, 3) := by decide +kernel
theorem dX3_readPiece_29 : decode fX3_readPiece.2.1 29 = .ok (.ifCond .eq 7, 3) := by decide +kernel
theorem dX3_readPiece_32 : decode fX3_readPiece.2.1 32 = .ok (.iconst 1, 1) := by decide +kernel
theorem dX3_readPiece_33 : decode fX3_readPiece.2.1 33 = .ok (.goto 4, 3) := by decide +kernel
theorem dX3_readPiece_36 : decode fX3_readPiece.2.1 36 = .ok (.iconst 0, 1) := by decide +kernel
theorem dX3_readPiece_37 : decode fX3_readPiece.2.1 37 = .ok (.ireturn, 1) := by decide +kernel
theorem dX3_readPiece_38 : decode fX3_readPiece.2.1 38 = .ok (.aload_n 0, 1) := by decide +kernel
theorem dX3_readPiece_39 : decode fX3_readPiece.2.1 39 = .ok (.getfield 25, 3) := by decide +kernel
theorem dX3_readPiece_42 : decode fX3_readPiece.2.1 42 = .ok (.iconst 1, 1) := by decide +kernel
theorem dX3_readPiece_43 : decode fX3_readPiece.2.1 43 = .ok (.if_icmp .ne 28, 3) := by decide +kernel
theorem dX3_readPiece_46 : decode fX3_readPiece.2.1 46 = .ok (.aload_n 0, 1) := by decide +kernel
theorem dX3_readPiece_47 : decode fX3_readPiece.2.1 47 = .ok (.invokevirtual 104, 3) := by decide +kernel
theorem dX3_readPiece_50 : decode fX3_readPiece.2.1 50 = .ok (.istore_n 1, 1) := by decide +kernel
theorem dX3_readPiece_51 : decode fX3_readPiece.2.1 51 = .ok (.iload_n 1, 1) := by decide +kernel
theorem dX3_readPiece_52 : decode fX3_readPiece.2.1 52 = .ok (.ifCond .lt 17, 3) := by decide +kernel
theorem dX3_readPiece_55 : decode fX3_readPiece.2.1 55 = .ok (.aload_n 0, 1) := by decide +kernel
theorem dX3_readPiece_56 : decode fX3_readPiece.2.1 56 = .ok (.iconst (-1), 1) := by decide +kernel
theorem dX3_readPiece_57 : decode fX3_readPiece.2.1 57 = .ok (.iload_n 1, 1) := by decide +kernel
theorem dX3_readPiece_58 : decode fX3_readPiece.2.1 58 = .ok (.isub, 1) := by decide +kernel
theorem dX3_readPiece_59 : decode fX3_readPiece.2.1 59 = .ok (.invokevirtual 101, 3) := by decide +kernel
theorem dX3_readPiece_62 : decode fX3_readPiece.2.1 62 = .ok (.ifCond .eq 7, 3) := by decide +kernel
theorem dX3_readPiece_65 : decode fX3_readPiece.2.1 65 = .ok (.iconst 1, 1) := by decide +kernel
theorem dX3_readPiece_66 : decode fX3_readPiece.2.1 66 = .ok (.goto 4, 3) := by decide +kernel
theorem dX3_readPiece_69 : decode fX3_readPiece.2.1 69 = .ok (.iconst 0, 1) := by decide +kernel
theorem dX3_readPiece_70 : decode fX3_readPiece.2.1 70 = .ok (.ireturn, 1) := by decide +kernel
theorem dX3_readPiece_71 : decode fX3_readPiece.2.1 71 = .ok (.aload_n 0, 1) := by decide +kernel
theorem dX3_readPiece_72 : decode fX3_readPiece.2.1 72 = .ok (.invokevirtual 88, 3) := by decide +kernel
theorem dX3_readPiece_75 : decode fX3_readPiece.2.1 75 = .ok (.istore_n 1, 1) := by decide +kernel
theorem dX3_readPiece_76 : decode fX3_readPiece.2.1 76 = .ok (.iload_n 1, 1) := by decide +kernel
theorem dX3_readPiece_77 : decode fX3_readPiece.2.1 77 = .ok (.bipush 33, 2) := by decide +kernel
theorem dX3_readPiece_79 : decode fX3_readPiece.2.1 79 = .ok (.if_icmp .ne 8, 3) := by decide +kernel
theorem dX3_readPiece_82 : decode fX3_readPiece.2.1 82 = .ok (.aload_n 0, 1) := by decide +kernel
theorem dX3_readPiece_83 : decode fX3_readPiece.2.1 83 = .ok (.invokevirtual 107, 3) := by decide +kernel
theorem dX3_readPiece_86 : decode fX3_readPiece.2.1 86 = .ok (.ireturn, 1) := by decide +kernel
theorem dX3_readPiece_87 : decode fX3_readPiece.2.1 87 = .ok (.iload_n 1, 1) := by decide +kernel
theorem dX3_readPiece_88 : decode fX3_readPiece.2.1 88 = .ok (.bipush 40, 2) := by decide +kernel
theorem dX3_readPiece_90 : decode fX3_readPiece.2.1 90 = .ok (.if_icmp .ne 14, 3) := by decide +kernel
theorem dX3_readPiece_93 : decode fX3_readPiece.2.1 93 = .ok (.aload_n 0, 1) := by decide +kernel
theorem dX3_readPiece_94 : decode fX3_readPiece.2.1 94 = .ok (.invokevirtual 110, 3) := by decide +kernel
theorem dX3_readPiece_97 : decode fX3_readPiece.2.1 97 = .ok (.ifCond .eq 7, 3) := by decide +kernel
theorem dX3_readPiece_100 : decode fX3_readPiece.2.1 100 = .ok (.iconst 1, 1) := by decide +kernel
theorem dX3_readPiece_101 : decode fX3_readPiece.2.1 101 = .ok (.goto 4, 3) := by decide +kernel
theorem dX3_readPiece_104 : decode fX3_readPiece.2.1 104 = .ok (.iconst 0, 1) := by decide +kernel
theorem dX3_readPiece_105 : decode fX3_readPiece.2.1 105 = .ok (.ireturn, 1) := by decide +kernel
set_option maxRecDepth 100000 in
set_option maxHeartbeats 4000000 in
theorem ok_X3_readPiece {X : Xb} {S : Sg} {mi : Mem} {q len key f : Nat} {b : Nat → Int32} {P : Ps} (hJ : RJp X b len key f) (hR : RPp X b len key f) (hT : TpA S q) (hB : TpB mi q b len) (hS : TpS mi q P) (hP : Pb len P) (hW : tkW b len P) (hk : mi q 5 = nI key) (hk3 : key < 3) (hmu : muP 5 P < f + 1) : Ok (3 * f + 8) 0 0 fX3_readPiece X [rf X q] S mi (PB S q mi (par b len key (f + 1) 5 P)) := by
  refine Ok.go [some (rf X q), none] (by decide) (by simp [Value.category]) (Nat.le_of_ble_eq_true rfl) rfl ?_
  obtain ⟨k_q, ⟨r_q_bytes, k_q_bytes⟩, ⟨r_q_steps, k_q_steps⟩⟩ := id hT
  have e2 : mi q 2 = nI P.1.1 := hS.1
  have e3 : mi q 3 = nI P.1.2.1 := hS.2.1
  have e4 : mi q 4 = nI P.1.2.2 := hS.2.2.1
  have c1 : P.1.1 ≤ P.1.2.1 := hP.1
  have c2 : P.1.2.1 ≤ len := hP.2.1
  have c3 : P.1.2.2 ≤ 4 := hP.2.2.1
  have c7 : len ≤ 96 := hP.2.2.2.2.2.2
  have ee : nI P.1.2.1 - nI P.1.1 = nI (P.1.2.1 - P.1.1) := pk_sub c1
  have i1 : nI P.1.2.2 = 1 ↔ P.1.2.2 = 1 := nI_eq (b := 1) (by omega) (by decide)
  have i2 : nI P.1.2.2 = 2 ↔ P.1.2.2 = 2 := nI_eq (b := 2) (by omega) (by decide)
  have hZ : ∀ Z, par b len key (f + 1) 5 P = Z → ∀ (r : Option Value) m, (r = some (.int (b2i (Z.1 = true))) ∧ S = S ∧ TpS m q Z.2 ∧ FrP q mi m) → PB S q mi (par b len key (f + 1) 5 P) r S m := by
    intro Z hz r m h
    rw [hz]
    exact h
  refine mw_aload_n dX3_readPiece_0 rfl ?_
  refine mw_geti dX3_readPiece_1 fl_X3_25 rfl (by assumption) ?_
  rw [e4]
  refine mw_iconst (v := 2) dX3_readPiece_4 (by decide) ?_
  refine mw_icmp_ne (tgt := 38) dX3_readPiece_5 (by decide) (fun h5 => ?_) (fun h5 => ?_)
  · skip
    have n2 : ¬ P.1.2.2 = 2 := fun g => h5 (i2.mpr g)
    refine mw_aload_n dX3_readPiece_38 rfl ?_
    refine mw_geti dX3_readPiece_39 fl_X3_25 rfl (by assumption) ?_
    rw [e4]
    refine mw_iconst (v := 1) dX3_readPiece_42 (by decide) ?_
    refine mw_icmp_ne (tgt := 71) dX3_readPiece_43 (by decide) (fun h43 => ?_) (fun h43 => ?_)
    · skip
      have n1 : ¬ P.1.2.2 = 1 := fun g => h43 (i1.mpr g)
      refine mw_aload_n dX3_readPiece_71 rfl ?_
      refine mw_cVI (g := fX3_signHere) dX3_readPiece_72 ml_X3_88 mfX3_signHere (ok_X3_signHere hT hB hS hP) (by assumption) rfl rfl (Nat.le_of_ble_eq_true rfl) ⟨by dsimp only [rmOf]; omega, by dsimp only [rmOf]; omega⟩ ⟨by dsimp only [rmOf]; omega, by dsimp only [rmOf]; omega⟩ ?_
      refine mw_istN 1 dX3_readPiece_75 rfl (by decide) ?_
      refine mw_iload_n dX3_readPiece_76 rfl ?_
      refine mw_bipush (v := 33) dX3_readPiece_77 (by decide) ?_
      refine mw_icmp_ne (tgt := 87) dX3_readPiece_79 (by decide) (fun h79 => ?_) (fun h79 => ?_)
      · skip
        refine mw_iload_n dX3_readPiece_87 rfl ?_
        refine mw_bipush (v := 40) dX3_readPiece_88 (by decide) ?_
        refine mw_icmp_ne (tgt := 104) dX3_readPiece_90 (by decide) (fun h90 => ?_) (fun h90 => ?_)
        · skip
          refine mw_iconst (v := 0) dX3_readPiece_104 (by decide) ?_
          exact mw_bret dX3_readPiece_105 rfl (by first | exact Or.inl rfl | exact Or.inr rfl | exact b2i_01) (by decide) (by decide) (by first | (have g := h97; exact hZ (opnF b len (par b len key f 0) P) (by rw [par_5, pieceF, if_neg n2, if_neg n1, if_neg h79, if_pos h90]) _ _ ⟨by rw [b2i_t g], rfl, h2, f2⟩) | exact hZ (false, P) (by rw [par_5, pieceF, if_neg n2, if_neg n1, if_neg h79, if_neg h90]) _ _ ⟨rfl, rfl, hS, FrP.rf _ _⟩ | fail "leaf")
        · skip
          refine mw_aload_n dX3_readPiece_93 rfl ?_
          refine mw_callV (g := fX3_readOpen) dX3_readPiece_94 ml_X3_110 mfX3_readOpen (ok_X3_readOpen hJ hT hB hS hP hk hmu) k_q rfl rfl (Nat.le_of_ble_eq_true rfl) ⟨by dsimp only [rmOf]; omega, by dsimp only [rmOf]; omega⟩ ⟨by dsimp only [rmOf]; omega, by dsimp only [rmOf]; omega⟩ (fun r S2 m2 hp => ?_)
          obtain ⟨rfl, e1, h2, f2⟩ := hp
          rw [e1]
          refine mw_if_eqB (tgt := 104) dX3_readPiece_97 (by decide) (fun h97 => ?_) (fun h97 => ?_)
          · skip
            refine mw_iconst (v := 0) dX3_readPiece_104 (by decide) ?_
            exact mw_bret dX3_readPiece_105 rfl (Or.inl rfl) (by decide) (by decide) (hZ (opnF b len (par b len key f 0) P) (by rw [par_5, pieceF, if_neg n2, if_neg n1, if_neg h79, if_pos h90]) _ _ ⟨by rw [b2i_f h97], rfl, h2, f2⟩)
          skip
          refine mw_iconst (v := 1) dX3_readPiece_100 (by decide) ?_
          refine mw_goto (tgt := 105) dX3_readPiece_101 (by decide) ?_
          exact mw_bret dX3_readPiece_105 rfl (by first | exact Or.inl rfl | exact Or.inr rfl | exact b2i_01) (by decide) (by decide) (by first | (have g := h97; exact hZ (opnF b len (par b len key f 0) P) (by rw [par_5, pieceF, if_neg n2, if_neg n1, if_neg h79, if_pos h90]) _ _ ⟨by rw [b2i_t g], rfl, h2, f2⟩) | exact hZ (false, P) (by rw [par_5, pieceF, if_neg n2, if_neg n1, if_neg h79, if_neg h90]) _ _ ⟨rfl, rfl, hS, FrP.rf _ _⟩ | fail "leaf")
      · skip
        refine mw_aload_n dX3_readPiece_82 rfl ?_
        refine mw_callV (g := fX3_readNot) dX3_readPiece_83 ml_X3_107 mfX3_readNot (ok_X3_readNot hR hT hB hS hP hk hmu) k_q rfl rfl (Nat.le_of_ble_eq_true rfl) ⟨by dsimp only [rmOf]; omega, by dsimp only [rmOf]; omega⟩ ⟨by dsimp only [rmOf]; omega, by dsimp only [rmOf]; omega⟩ (fun r S2 m2 hp => ?_)
        obtain ⟨rfl, e1, h2, f2⟩ := hp
        rw [e1]
        exact mw_bret dX3_readPiece_86 rfl (by first | exact Or.inl rfl | exact Or.inr rfl | exact b2i_01) (by decide) (by decide) (hZ (notF b len (par b len key f 5) P) (by rw [par_5, pieceF, if_neg n2, if_neg n1, if_pos h79]) _ _ ⟨rfl, rfl, h2, f2⟩)
    · skip
      have t1 := i1.mp h43
      obtain ⟨j, hj, hbj⟩ := tk_j (hW t1)
      refine mw_aload_n dX3_readPiece_46 rfl ?_
      refine mw_cVI (g := fX3_nameHere) dX3_readPiece_47 ml_X3_104 mfX3_nameHere (ok_X3_nameHere hT hB hS hP hk hk3 hj hbj) (by assumption) rfl rfl (Nat.le_of_ble_eq_true rfl) ⟨by dsimp only [rmOf]; omega, by dsimp only [rmOf]; omega⟩ ⟨by dsimp only [rmOf]; omega, by dsimp only [rmOf]; omega⟩ ?_
      refine mw_istN 1 dX3_readPiece_50 rfl (by decide) ?_
      refine mw_iload_n dX3_readPiece_51 rfl ?_
      refine mw_if_lt (tgt := 69) dX3_readPiece_52 (by decide) (fun h52 => ?_) (fun h52 => ?_)
      · skip
        refine mw_iconst (v := 0) dX3_readPiece_69 (by decide) ?_
        exact mw_bret dX3_readPiece_70 rfl (by first | exact Or.inl rfl | exact Or.inr rfl | exact b2i_01) (by decide) (by decide) (by first | exact hZ (true, leafP b len P (-1 - nmH b len key P)) (by rw [par_5, pieceF, if_neg n2, if_pos t1, if_neg h52]) _ _ ⟨rfl, rfl, h2, f2⟩ | exact hZ (false, P) (by rw [par_5, pieceF, if_neg n2, if_pos t1, if_pos h52]) _ _ ⟨rfl, rfl, hS, FrP.rf _ _⟩ | fail "leaf")
      · skip
        refine mw_aload_n dX3_readPiece_55 rfl ?_
        refine mw_iconst (v := (-1)) dX3_readPiece_56 (by decide) ?_
        refine mw_iload_n dX3_readPiece_57 rfl ?_
        refine mw_isub dX3_readPiece_58 ?_
        refine mw_callV (g := fX3_readLeaf) dX3_readPiece_59 ml_X3_101 mfX3_readLeaf (ok_X3_readLeaf hT hB hS hP) k_q rfl rfl (Nat.le_of_ble_eq_true rfl) ⟨by dsimp only [rmOf]; omega, by dsimp only [rmOf]; omega⟩ ⟨by dsimp only [rmOf]; omega, by dsimp only [rmOf]; omega⟩ (fun r S2 m2 hp => ?_)
        obtain ⟨rfl, e1, h2, f2⟩ := hp
        rw [e1]
        refine mw_if_eqB (tgt := 69) dX3_readPiece_62 (by decide) (fun h62 => absurd rfl h62) (fun h62 => ?_)
        skip
        refine mw_iconst (v := 1) dX3_readPiece_65 (by decide) ?_
        refine mw_goto (tgt := 70) dX3_readPiece_66 (by decide) ?_
        exact mw_bret dX3_readPiece_70 rfl (by first | exact Or.inl rfl | exact Or.inr rfl | exact b2i_01) (by decide) (by decide) (by first | exact hZ (true, leafP b len P (-1 - nmH b len key P)) (by rw [par_5, pieceF, if_neg n2, if_pos t1, if_neg h52]) _ _ ⟨rfl, rfl, h2, f2⟩ | exact hZ (false, P) (by rw [par_5, pieceF, if_neg n2, if_pos t1, if_pos h52]) _ _ ⟨rfl, rfl, hS, FrP.rf _ _⟩ | fail "leaf")
  · skip
    refine mw_aload_n dX3_readPiece_8 rfl ?_
    refine mw_geti dX3_readPiece_9 fl_X3_22 rfl (by assumption) ?_
    rw [e3]
    refine mw_aload_n dX3_readPiece_12 rfl ?_
    refine mw_geti dX3_readPiece_13 fl_X3_59 rfl (by assumption) ?_
    rw [e2]
    refine mw_isub dX3_readPiece_16 ?_
    rw [ee]
    refine mw_iconst (v := 4) dX3_readPiece_17 (by decide) ?_
    refine mw_icmp_gt (tgt := 36) dX3_readPiece_18 (by decide) (fun h18 => ?_) (fun h18 => ?_)
    · skip
      refine mw_iconst (v := 0) dX3_readPiece_36 (by decide) ?_
      exact mw_bret dX3_readPiece_37 rfl (by first | exact Or.inl rfl | exact Or.inr rfl | exact b2i_01) (by decide) (by decide) (by first | exact hZ (true, leafP b len P (numF b P.1.1 (P.1.2.1 - P.1.1))) (by rw [par_5, pieceF, if_pos (i2.mp h5), if_pos ((nI_leI (b := 4) (by omega) (by decide)).mp (Int32.not_lt.mp h18))]) _ _ ⟨rfl, rfl, h2, f2⟩ | exact hZ (false, P) (by rw [par_5, pieceF, if_pos (i2.mp h5), if_neg (fun g => absurd h18 (Int32.not_lt.mpr (nI_le (b := 4) g (by decide))))]) _ _ ⟨rfl, rfl, hS, FrP.rf _ _⟩ | fail "leaf")
    · skip
      refine mw_aload_n dX3_readPiece_21 rfl ?_
      refine mw_aload_n dX3_readPiece_22 rfl ?_
      refine mw_cVI (g := fX3_numberHere) dX3_readPiece_23 ml_X3_98 mfX3_numberHere (ok_X3_numberHere hT hB hS hP) (by assumption) rfl rfl (Nat.le_of_ble_eq_true rfl) ⟨by dsimp only [rmOf]; omega, by dsimp only [rmOf]; omega⟩ ⟨by dsimp only [rmOf]; omega, by dsimp only [rmOf]; omega⟩ ?_
      refine mw_callV (g := fX3_readLeaf) dX3_readPiece_26 ml_X3_101 mfX3_readLeaf (ok_X3_readLeaf hT hB hS hP) k_q rfl rfl (Nat.le_of_ble_eq_true rfl) ⟨by dsimp only [rmOf]; omega, by dsimp only [rmOf]; omega⟩ ⟨by dsimp only [rmOf]; omega, by dsimp only [rmOf]; omega⟩ (fun r S2 m2 hp => ?_)
      obtain ⟨rfl, e1, h2, f2⟩ := hp
      rw [e1]
      refine mw_if_eqB (tgt := 36) dX3_readPiece_29 (by decide) (fun h29 => absurd rfl h29) (fun h29 => ?_)
      skip
      refine mw_iconst (v := 1) dX3_readPiece_32 (by decide) ?_
      refine mw_goto (tgt := 37) dX3_readPiece_33 (by decide) ?_
      exact mw_bret dX3_readPiece_37 rfl (by first | exact Or.inl rfl | exact Or.inr rfl | exact b2i_01) (by decide) (by decide) (by first | exact hZ (true, leafP b len P (numF b P.1.1 (P.1.2.1 - P.1.1))) (by rw [par_5, pieceF, if_pos (i2.mp h5), if_pos ((nI_leI (b := 4) (by omega) (by decide)).mp (Int32.not_lt.mp h18))]) _ _ ⟨rfl, rfl, h2, f2⟩ | exact hZ (false, P) (by rw [par_5, pieceF, if_pos (i2.mp h5), if_neg (fun g => absurd h18 (Int32.not_lt.mpr (nI_le (b := 4) g (by decide))))]) _ _ ⟨rfl, rfl, hS, FrP.rf _ _⟩ | fail "leaf")
theorem dX3_readJoined_0 : decode fX3_readJoined.2.1 0 = .ok (.iload_n 1, 1) := by decide +kernel
theorem dX3_readJoined_1 : decode fX3_readJoined.2.1 1 = .ok (.iconst 5, 1) := by decide +kernel
theorem dX3_readJoined_2 : decode fX3_readJoined.2.1 2 = .ok (.if_icmp .lt 8, 3) := by decide +kernel
theorem dX3_readJoined_5 : decode fX3_readJoined.2.1 5 = .ok (.aload_n 0, 1) := by decide +kernel
theorem dX3_readJoined_6 : decode fX3_readJoined.2.1 6 = .ok (.invokevirtual 84, 3) := by decide +kernel
theorem dX3_readJoined_9 : decode fX3_readJoined.2.1 9 = .ok (.ireturn, 1) := by decide +kernel
theorem dX3_readJoined_10 : decode fX3_readJoined.2.1 10 = .ok (.aload_n 0, 1) := by decide +kernel
theorem dX3_readJoined_11 : decode fX3_readJoined.2.1 11 = .ok (.iload_n 1, 1) := by decide +kernel
theorem dX3_readJoined_12 : decode fX3_readJoined.2.1 12 = .ok (.iconst 1, 1) := by decide +kernel
theorem dX3_readJoined_13 : decode fX3_readJoined.2.1 13 = .ok (.iadd, 1) := by decide +kernel
theorem dX3_readJoined_14 : decode fX3_readJoined.2.1 14 = .ok (.invokevirtual 50, 3) := by decide +kernel
theorem dX3_readJoined_17 : decode fX3_readJoined.2.1 17 = .ok (.ifCond .ne 5, 3) := by decide +kernel
theorem dX3_readJoined_20 : decode fX3_readJoined.2.1 20 = .ok (.iconst 0, 1) := by decide +kernel
theorem dX3_readJoined_21 : decode fX3_readJoined.2.1 21 = .ok (.ireturn, 1) := by decide +kernel
theorem dX3_readJoined_22 : decode fX3_readJoined.2.1 22 = .ok (.iload_n 1, 1) := by decide +kernel
theorem dX3_readJoined_23 : decode fX3_readJoined.2.1 23 = .ok (.iconst 2, 1) := by decide +kernel
theorem dX3_readJoined_24 : decode fX3_readJoined.2.1 24 = .ok (.if_icmp .ne 7, 3) := by decide +kernel
theorem dX3_readJoined_27 : decode fX3_readJoined.2.1 27 = .ok (.iconst 1, 1) := by decide +kernel
theorem dX3_readJoined_28 : decode fX3_readJoined.2.1 28 = .ok (.goto 5, 3) := by decide +kernel
theorem dX3_readJoined_31 : decode fX3_readJoined.2.1 31 = .ok (.bipush 96, 2) := by decide +kernel
theorem dX3_readJoined_33 : decode fX3_readJoined.2.1 33 = .ok (.istore_n 2, 1) := by decide +kernel
theorem dX3_readJoined_34 : decode fX3_readJoined.2.1 34 = .ok (.iconst 0, 1) := by decide +kernel
theorem dX3_readJoined_35 : decode fX3_readJoined.2.1 35 = .ok (.istore_n 3, 1) := by decide +kernel
theorem dX3_readJoined_36 : decode fX3_readJoined.2.1 36 = .ok (.iload_n 3, 1) := by decide +kernel
theorem dX3_readJoined_37 : decode fX3_readJoined.2.1 37 = .ok (.iload_n 2, 1) := by decide +kernel
theorem dX3_readJoined_38 : decode fX3_readJoined.2.1 38 = .ok (.if_icmp .ge 49, 3) := by decide +kernel
theorem dX3_readJoined_41 : decode fX3_readJoined.2.1 41 = .ok (.aload_n 0, 1) := by decide +kernel
theorem dX3_readJoined_42 : decode fX3_readJoined.2.1 42 = .ok (.invokevirtual 88, 3) := by decide +kernel
theorem dX3_readJoined_45 : decode fX3_readJoined.2.1 45 = .ok (.invokestatic 91, 3) := by decide +kernel
theorem dX3_readJoined_48 : decode fX3_readJoined.2.1 48 = .ok (.iload_n 1, 1) := by decide +kernel
theorem dX3_readJoined_49 : decode fX3_readJoined.2.1 49 = .ok (.if_icmp .ne 38, 3) := by decide +kernel
theorem dX3_readJoined_52 : decode fX3_readJoined.2.1 52 = .ok (.aload_n 0, 1) := by decide +kernel
theorem dX3_readJoined_53 : decode fX3_readJoined.2.1 53 = .ok (.invokevirtual 88, 3) := by decide +kernel
theorem dX3_readJoined_56 : decode fX3_readJoined.2.1 56 = .ok (.istore 4, 2) := by decide +kernel
theorem dX3_readJoined_58 : decode fX3_readJoined.2.1 58 = .ok (.aload_n 0, 1) := by decide +kernel
theorem dX3_readJoined_59 : decode fX3_readJoined.2.1 59 = .ok (.invokevirtual 40, 3) := by decide +kernel
theorem dX3_readJoined_62 : decode fX3_readJoined.2.1 62 = .ok (.aload_n 0, 1) := by decide +kernel
theorem dX3_readJoined_63 : decode fX3_readJoined.2.1 63 = .ok (.iload_n 1, 1) := by decide +kernel
theorem dX3_readJoined_64 : decode fX3_readJoined.2.1 64 = .ok (.iconst 1, 1) := by decide +kernel
theorem dX3_readJoined_65 : decode fX3_readJoined.2.1 65 = .ok (.iadd, 1) := by decide +kernel
theorem dX3_readJoined_66 : decode fX3_readJoined.2.1 66 = .ok (.invokevirtual 50, 3) := by decide +kernel
theorem dX3_readJoined_69 : decode fX3_readJoined.2.1 69 = .ok (.ifCond .ne 5, 3) := by decide +kernel
theorem dX3_readJoined_72 : decode fX3_readJoined.2.1 72 = .ok (.iconst 0, 1) := by decide +kernel
theorem dX3_readJoined_73 : decode fX3_readJoined.2.1 73 = .ok (.ireturn, 1) := by decide +kernel
theorem dX3_readJoined_74 : decode fX3_readJoined.2.1 74 = .ok (.aload_n 0, 1) := by decide +kernel
theorem dX3_readJoined_75 : decode fX3_readJoined.2.1 75 = .ok (.iload 4, 2) := by decide +kernel
theorem dX3_readJoined_77 : decode fX3_readJoined.2.1 77 = .ok (.ineg, 1) := by decide +kernel
theorem dX3_readJoined_78 : decode fX3_readJoined.2.1 78 = .ok (.invokevirtual 94, 3) := by decide +kernel
theorem dX3_readJoined_81 : decode fX3_readJoined.2.1 81 = .ok (.iinc 3 1, 3) := by decide +kernel
theorem dX3_readJoined_84 : decode fX3_readJoined.2.1 84 = .ok (.goto (-48), 3) := by decide +kernel
theorem dX3_readJoined_87 : decode fX3_readJoined.2.1 87 = .ok (.iconst 1, 1) := by decide +kernel
theorem dX3_readJoined_88 : decode fX3_readJoined.2.1 88 = .ok (.ireturn, 1) := by decide +kernel
set_option maxRecDepth 100000 in
set_option maxHeartbeats 4000000 in
theorem ok_X3_readJoined {X : Xb} {S : Sg} {mi : Mem} {q len key f r : Nat} {b : Nat → Int32} {P : Ps} (hJ : RJp X b len key f) (hR : RPp X b len key (f + 1)) (hT : TpA S q) (hB : TpB mi q b len) (hS : TpS mi q P) (hP : Pb len P) (hW : tkW b len P) (hk : mi q 5 = nI key) (hr : r ≤ 5) (hmu : muP r P < f + 1) : Ok (3 * f + 9) 0 0 fX3_readJoined X [rf X q, .int (nI r)] S mi (PB S q mi (par b len key (f + 1) r P)) := by
  by_cases c5 : r = 5
  · subst c5
    refine Ok.go [some (rf X q), some (.int (nI 5)), none, none, none] (by decide) (by simp [Value.category]) (Nat.le_of_ble_eq_true rfl) rfl ?_
    obtain ⟨k_q, ⟨r_q_bytes, k_q_bytes⟩, ⟨r_q_steps, k_q_steps⟩⟩ := id hT
    refine mw_iload_n dX3_readJoined_0 rfl ?_
    refine mw_iconst (v := 5) dX3_readJoined_1 (by decide) ?_
    refine mw_icmp_lt (tgt := 10) dX3_readJoined_2 (by decide) (fun h2 => ?_) (fun h2 => ?_)
    · skip
      exact absurd h2 (by decide)
    · skip
      refine mw_aload_n dX3_readJoined_5 rfl ?_
      refine mw_callV (g := fX3_readPiece) dX3_readJoined_6 ml_X3_84 mfX3_readPiece (hR S mi q P hT hB hS hP hW hk hmu) k_q rfl rfl (Nat.le_of_ble_eq_true rfl) ⟨by dsimp only [rmOf]; omega, by dsimp only [rmOf]; omega⟩ ⟨by dsimp only [rmOf]; omega, by dsimp only [rmOf]; omega⟩ (fun r S2 m2 hp => ?_)
      obtain ⟨rfl, e1, h2, f2⟩ := hp
      rw [e1]
      exact mw_bret dX3_readJoined_9 rfl (by first | exact Or.inl rfl | exact Or.inr rfl | exact b2i_01) (by decide) (by decide) (⟨rfl, rfl, h2, f2⟩)
  · have r5 : r < 5 := by omega
    refine Ok.go [some (rf X q), some (.int (nI r)), none, none, none] (by decide) (by simp [Value.category]) (Nat.le_of_ble_eq_true rfl) rfl ?_
    obtain ⟨k_q, ⟨r_q_bytes, k_q_bytes⟩, ⟨r_q_steps, k_q_steps⟩⟩ := id hT
    obtain ⟨g1, g2, g3⟩ := par_ok (key := key) f (r + 1) P hP hW
    have lp : ∀ c k m Q, c + k = mostN r → TpS m q Q → Pb len Q → tkW b len Q → FrP q mi m → kp P Q → jlF (par b len key f (r + 1)) b len r c Q = par b len key (f + 1) r P → MW X fX3_readJoined (rmOf (3 * f + 9) 0 0) 0 0 36 [some (rf X q), some (.int (nI r)), some (.int (nI (mostN r))), some (.int (nI k)), none] [] S m (mQ X 0 0 (PB S q mi (par b len key (f + 1) r P))) := by
      intro c
      have m96 : mostN r ≤ 96 := by unfold mostN; split <;> omega
      induction c with
      | zero =>
        intro k m Q hc hQ hb hw hF hkp hV
        simp only [jlF] at hV
        refine mw_iload_n dX3_readJoined_36 rfl ?_
        refine mw_iload_n dX3_readJoined_37 rfl ?_
        refine mw_icmp_ge (tgt := 87) dX3_readJoined_38 (by decide) (fun h38 => ?_) (fun h38 => ?_)
        · skip
          refine mw_iconst (v := 1) dX3_readJoined_87 (by decide) ?_
          exact mw_bret dX3_readJoined_88 rfl (by first | exact Or.inl rfl | exact Or.inr rfl | exact b2i_01) (by decide) (by decide) (by rw [← hV]; exact ⟨rfl, rfl, hQ, hF⟩)
        · skip
          exact absurd (nI_le (show mostN r ≤ k by omega) (by omega)) h38
      | succ c ih =>
        intro k m Q hc hQ hb hw hF hkp hV
        simp only [jlF] at hV
        obtain ⟨a1, a2, a3⟩ := par_ok (key := key) f (r + 1) (adv b len Q) (pb_adv hb) (tkW_adv b len Q)
        refine mw_iload_n dX3_readJoined_36 rfl ?_
        refine mw_iload_n dX3_readJoined_37 rfl ?_
        refine mw_icmp_ge (tgt := 87) dX3_readJoined_38 (by decide) (fun h38 => ?_) (fun h38 => ?_)
        · skip
          refine mw_iconst (v := 1) dX3_readJoined_87 (by decide) ?_
          exact mw_bret dX3_readJoined_88 rfl (by first | exact Or.inl rfl | exact Or.inr rfl | exact b2i_01) (by decide) (by decide) (by first | exact absurd h38 (nI_ge (by omega) (by omega)) | (rw [if_neg h49] at hV; rw [← hV]; exact ⟨rfl, rfl, hQ, hF⟩) | fail "leaf")
        · skip
          refine mw_aload_n dX3_readJoined_41 rfl ?_
          refine mw_cVI (g := fX3_signHere) dX3_readJoined_42 ml_X3_88 mfX3_signHere (ok_X3_signHere hT (hB.fr hF) hQ hb) (by assumption) rfl rfl (Nat.le_of_ble_eq_true rfl) ⟨by dsimp only [rmOf]; omega, by dsimp only [rmOf]; omega⟩ ⟨by dsimp only [rmOf]; omega, by dsimp only [rmOf]; omega⟩ ?_
          refine mw_cSI (g := fX3_rankOf) dX3_readJoined_45 ml_X3_91 mfX3_rankOf (ok_X3_rankOf) rfl rfl (Nat.le_of_ble_eq_true rfl) ⟨by dsimp only [rmOf]; omega, by dsimp only [rmOf]; omega⟩ ⟨by dsimp only [rmOf]; omega, by dsimp only [rmOf]; omega⟩ ?_
          refine mw_iload_n dX3_readJoined_48 rfl ?_
          refine mw_icmp_ne (tgt := 87) dX3_readJoined_49 (by decide) (fun h49 => ?_) (fun h49 => ?_)
          · skip
            refine mw_iconst (v := 1) dX3_readJoined_87 (by decide) ?_
            exact mw_bret dX3_readJoined_88 rfl (by first | exact Or.inl rfl | exact Or.inr rfl | exact b2i_01) (by decide) (by decide) (by first | exact absurd h38 (nI_ge (by omega) (by omega)) | (rw [if_neg h49] at hV; rw [← hV]; exact ⟨rfl, rfl, hQ, hF⟩) | fail "leaf")
          · skip
            rw [if_pos h49] at hV
            refine mw_aload_n dX3_readJoined_52 rfl ?_
            refine mw_cVI (g := fX3_signHere) dX3_readJoined_53 ml_X3_88 mfX3_signHere (ok_X3_signHere hT (hB.fr hF) hQ hb) (by assumption) rfl rfl (Nat.le_of_ble_eq_true rfl) ⟨by dsimp only [rmOf]; omega, by dsimp only [rmOf]; omega⟩ ⟨by dsimp only [rmOf]; omega, by dsimp only [rmOf]; omega⟩ ?_
            refine mw_istore dX3_readJoined_56 (by decide) ?_
            refine mw_aload_n dX3_readJoined_58 rfl ?_
            refine mw_callV (g := fX3_advance) dX3_readJoined_59 ml_X3_40 mfX3_advance (ok_X3_advance hT (hB.fr hF) hQ hb) k_q rfl rfl (Nat.le_of_ble_eq_true rfl) ⟨by dsimp only [rmOf]; omega, by dsimp only [rmOf]; omega⟩ ⟨by dsimp only [rmOf]; omega, by dsimp only [rmOf]; omega⟩ (fun r9 S2 m2 hp => ?_)
            obtain ⟨rfl, e1, h2, f2⟩ := hp
            rw [e1]
            have f12 := hF.tr f2
            refine mw_aload_n dX3_readJoined_62 rfl ?_
            refine mw_iload_n dX3_readJoined_63 rfl ?_
            refine mw_iconst (v := 1) dX3_readJoined_64 (by decide) ?_
            refine mw_iadd dX3_readJoined_65 ?_
            rw [nI_1]
            refine mw_callV (g := fX3_readJoined) dX3_readJoined_66 ml_X3_50 mfX3_readJoined (hJ S m2 q (adv b len Q) (r + 1) hT (hB.fr f12) h2 (pb_adv hb) (tkW_adv b len Q) (f12.2.2.trans hk) (by omega) (by have e := muP_kp (r := r + 1) hkp; have e' : muP (r + 1) (adv b len Q) = muP (r + 1) Q := rfl; rw [e', e]; unfold muP at hmu ⊢; omega)) k_q rfl rfl (Nat.le_of_ble_eq_true rfl) ⟨by dsimp only [rmOf]; omega, by dsimp only [rmOf]; omega⟩ ⟨by dsimp only [rmOf]; omega, by dsimp only [rmOf]; omega⟩ (fun r9 S3 m3 hp => ?_)
            obtain ⟨rfl, e2, h3, f3⟩ := hp
            rw [e2]
            have f13 := f12.tr f3
            refine mw_if_neB (tgt := 74) dX3_readJoined_69 (by decide) (fun h69 => ?_) (fun h69 => ?_)
            · skip
              rw [if_pos h69] at hV
              refine mw_aload_n dX3_readJoined_74 rfl ?_
              refine mw_iload dX3_readJoined_75 rfl ?_
              refine mw_ineg dX3_readJoined_77 ?_
              refine mw_callV (g := fX3_addStep) dX3_readJoined_78 ml_X3_94 mfX3_addStep (ok_X3_addStep (len := len) hT h3 a1) k_q rfl rfl (Nat.le_of_ble_eq_true rfl) ⟨by dsimp only [rmOf]; omega, by dsimp only [rmOf]; omega⟩ ⟨by dsimp only [rmOf]; omega, by dsimp only [rmOf]; omega⟩ (fun r9 S4 m4 hp => ?_)
              obtain ⟨rfl, e3, h4, f4⟩ := hp
              rw [e3]
              refine mw_iincK (k := k) dX3_readJoined_81 rfl rfl (by decide) ?_
              refine mw_goto (tgt := 36) dX3_readJoined_84 (by decide) ?_
              exact MW.sub (by simp [lsub]) (ih (k + 1) m4 _ (by omega) h4 (pb_adP a1) a2 (f13.tr f4) ⟨(a3 h69).1.trans hkp.1, (a3 h69).2.trans hkp.2⟩ hV)
            · skip
              rw [if_neg h69] at hV
              refine mw_iconst (v := 0) dX3_readJoined_72 (by decide) ?_
              exact mw_bret dX3_readJoined_73 rfl (Or.inl rfl) (by decide) (by decide) (by rw [← hV]; exact ⟨rfl, rfl, h3, f13⟩)
    have l5 : nI r < 5 := nI_lt (b := 5) r5 (by decide)
    have hm1 : muP (r + 1) P < f := by unfold muP at hmu ⊢; omega
    refine mw_iload_n dX3_readJoined_0 rfl ?_
    refine mw_iconst (v := 5) dX3_readJoined_1 (by decide) ?_
    refine mw_icmp_lt (tgt := 10) dX3_readJoined_2 (by decide) (fun h2 => ?_) (fun h2 => ?_)
    · skip
      refine mw_aload_n dX3_readJoined_10 rfl ?_
      refine mw_iload_n dX3_readJoined_11 rfl ?_
      refine mw_iconst (v := 1) dX3_readJoined_12 (by decide) ?_
      refine mw_iadd dX3_readJoined_13 ?_
      rw [nI_1]
      refine mw_callV (g := fX3_readJoined) dX3_readJoined_14 ml_X3_50 mfX3_readJoined (hJ S mi q P (r + 1) hT hB hS hP hW hk (by omega) hm1) k_q rfl rfl (Nat.le_of_ble_eq_true rfl) ⟨by dsimp only [rmOf]; omega, by dsimp only [rmOf]; omega⟩ ⟨by dsimp only [rmOf]; omega, by dsimp only [rmOf]; omega⟩ (fun r9 S2 m2 hp => ?_)
      obtain ⟨rfl, e1, h2', f2⟩ := hp
      rw [e1]
      refine mw_if_neB (tgt := 22) dX3_readJoined_17 (by decide) (fun h17 => ?_) (fun h17 => ?_)
      rotate_left 1
      · skip
        refine mw_iconst (v := 0) dX3_readJoined_20 (by decide) ?_
        exact mw_bret dX3_readJoined_21 rfl (Or.inl rfl) (by decide) (by decide) (by rw [par_r r5, if_neg h17]; exact ⟨rfl, rfl, h2', f2⟩)
      skip
      skip
      skip
      refine mw_iload_n dX3_readJoined_22 rfl ?_
      refine mw_iconst (v := 2) dX3_readJoined_23 (by decide) ?_
      refine mw_icmp_ne (tgt := 31) dX3_readJoined_24 (by decide) (fun h24 => ?_) (fun h24 => ?_)
      · skip
        refine mw_bipush (v := 96) dX3_readJoined_31 (by decide) ?_
        refine mw_istN 2 dX3_readJoined_33 rfl (by decide) ?_
        refine mw_iconst (v := 0) dX3_readJoined_34 (by decide) ?_
        refine mw_istN 3 dX3_readJoined_35 rfl (by decide) ?_
        have gg := lp (mostN r) 0 m2 _ rfl h2' g1 g2 f2 (g3 h17) (by rw [par_r r5, if_pos h17])
        first
          | (have g : r = 2 := (nI_eq (b := 2) (by omega) (by decide)).mp h24; rw [show mostN r = 1 from by rw [mostN, if_pos g], show nI 1 = 1 from rfl] at gg; exact MW.sub (by simp [lsub, nI_0]) gg)
          | (have g : ¬ r = 2 := fun g => h24 (by rw [g]; rfl); rw [show mostN r = 96 from by rw [mostN, if_neg g], show nI 96 = 96 from rfl] at gg; exact MW.sub (by simp [lsub, nI_0]) gg)
      · skip
        refine mw_iconst (v := 1) dX3_readJoined_27 (by decide) ?_
        refine mw_goto (tgt := 33) dX3_readJoined_28 (by decide) ?_
        refine mw_istN 2 dX3_readJoined_33 rfl (by decide) ?_
        refine mw_iconst (v := 0) dX3_readJoined_34 (by decide) ?_
        refine mw_istN 3 dX3_readJoined_35 rfl (by decide) ?_
        have gg := lp (mostN r) 0 m2 _ rfl h2' g1 g2 f2 (g3 h17) (by rw [par_r r5, if_pos h17])
        first
          | (have g : r = 2 := (nI_eq (b := 2) (by omega) (by decide)).mp h24; rw [show mostN r = 1 from by rw [mostN, if_pos g], show nI 1 = 1 from rfl] at gg; exact MW.sub (by simp [lsub, nI_0]) gg)
          | (have g : ¬ r = 2 := fun g => h24 (by rw [g]; rfl); rw [show mostN r = 96 from by rw [mostN, if_neg g], show nI 96 = 96 from rfl] at gg; exact MW.sub (by simp [lsub, nI_0]) gg)
    · skip
      exact absurd l5 h2
theorem parse_all (X : Xb) (b : Nat → Int32) (len key : Nat) (hk3 : key < 3) : ∀ f, RJp X b len key f ∧ RPp X b len key f
  | 0 => ⟨fun _ _ _ _ _ _ _ _ _ _ _ _ h => absurd h (Nat.not_lt_zero _), fun _ _ _ _ _ _ _ _ _ _ h => absurd h (Nat.not_lt_zero _)⟩
  | f + 1 => by
    obtain ⟨hJ, hR⟩ := parse_all X b len key hk3 f
    have hR1 : RPp X b len key (f + 1) := fun S mi q P h1 h2 h3 h4 h5 h6 h7 => ok_X3_readPiece hJ hR h1 h2 h3 h4 h5 h6 hk3 h7
    exact ⟨fun S mi q P r h1 h2 h3 h4 h5 h6 h7 h8 => ok_X3_readJoined hJ hR1 h1 h2 h3 h4 h5 h6 h7 h8, hR1⟩
