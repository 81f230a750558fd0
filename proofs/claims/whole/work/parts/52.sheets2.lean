/-! the object: pour, reads, feed, textTold -/
theorem hnIff {k z : Nat} {f : Nat → Int32} (hk : k < 2 ^ 31) (hz : z < 2 ^ 31) : ((0 ≤ nI k ∧ nI k ≤ nI z - 1) ∧ f (nI k).toNatClampNeg ≠ NONEi) ↔ (k < z ∧ f k ≠ NONEi) := by
  rw [nI_clamp hk]
  constructor
  · rintro ⟨h1, h2⟩
    obtain ⟨a, ha, e⟩ := inN h1 hz
    have : k = a := (nI_eq hk (by omega)).mp e
    exact ⟨by omega, h2⟩
  · rintro ⟨h1, h2⟩
    exact ⟨Nin h1 hz, h2⟩
def pourS (c : Nat → Int32) (z : Nat) (A : Nat → Int32) : Nat → Int32 × (Nat → Int32)
  | 0 => (0, A)
  | k + 1 => if k < z ∧ c k ≠ NONEi then ((pourS c z A k).1 + (if maxI 0 (minI 99 (c k)) = (pourS c z A k).2 (18 + k) then 0 else 1), upd (pourS c z A k).2 (18 + k) (maxI 0 (minI 99 (c k)))) else pourS c z A k
def cPour (mi : Mem) (x : Nat) (A : Nat → Int32) (n : Nat) (v : Int32) : Sp := if 0 ≤ v ∧ v ≤ 3 then (if mi (x + 59 + 2 * v.toNatClampNeg) 1 = -1 then (NOTHINGi, A, n) else ((pourS (mi (x + 59 + 2 * v.toNatClampNeg + 1)) (mi (x + 59 + 2 * v.toNatClampNeg) 2).toNatClampNeg A 8).1, (pourS (mi (x + 59 + 2 * v.toNatClampNeg + 1)) (mi (x + 59 + 2 * v.toNatClampNeg) 2).toNatClampNeg A 8).2, n)) else (BADi, A, n)
theorem dX6_pour_0 : decode fX6_pour.2.1 0 = .ok (.iload_n 1, 1) := by decide +kernel
theorem dX6_pour_1 : decode fX6_pour.2.1 1 = .ok (.invokestatic 187, 3) := by decide +kernel
theorem dX6_pour_4 : decode fX6_pour.2.1 4 = .ok (.ifCond .ne 6, 3) := by decide +kernel
theorem dX6_pour_7 : decode fX6_pour.2.1 7 = .ok (.ldc 58, 2) := by decide +kernel
theorem dX6_pour_9 : decode fX6_pour.2.1 9 = .ok (.ireturn, 1) := by decide +kernel
theorem dX6_pour_10 : decode fX6_pour.2.1 10 = .ok (.aload_n 0, 1) := by decide +kernel
theorem dX6_pour_11 : decode fX6_pour.2.1 11 = .ok (.getfield 31, 3) := by decide +kernel
theorem dX6_pour_14 : decode fX6_pour.2.1 14 = .ok (.iload_n 1, 1) := by decide +kernel
theorem dX6_pour_15 : decode fX6_pour.2.1 15 = .ok (.aaload, 1) := by decide +kernel
theorem dX6_pour_16 : decode fX6_pour.2.1 16 = .ok (.astore_n 2, 1) := by decide +kernel
theorem dX6_pour_17 : decode fX6_pour.2.1 17 = .ok (.aload_n 2, 1) := by decide +kernel
theorem dX6_pour_18 : decode fX6_pour.2.1 18 = .ok (.getfield 190, 3) := by decide +kernel
theorem dX6_pour_21 : decode fX6_pour.2.1 21 = .ok (.iconst (-1), 1) := by decide +kernel
theorem dX6_pour_22 : decode fX6_pour.2.1 22 = .ok (.if_icmp .ne 6, 3) := by decide +kernel
theorem dX6_pour_25 : decode fX6_pour.2.1 25 = .ok (.ldc 193, 2) := by decide +kernel
theorem dX6_pour_27 : decode fX6_pour.2.1 27 = .ok (.ireturn, 1) := by decide +kernel
theorem dX6_pour_28 : decode fX6_pour.2.1 28 = .ok (.iconst 0, 1) := by decide +kernel
theorem dX6_pour_29 : decode fX6_pour.2.1 29 = .ok (.istore_n 3, 1) := by decide +kernel
theorem dX6_pour_30 : decode fX6_pour.2.1 30 = .ok (.iconst 0, 1) := by decide +kernel
theorem dX6_pour_31 : decode fX6_pour.2.1 31 = .ok (.istore 4, 2) := by decide +kernel
theorem dX6_pour_33 : decode fX6_pour.2.1 33 = .ok (.iload 4, 2) := by decide +kernel
theorem dX6_pour_35 : decode fX6_pour.2.1 35 = .ok (.bipush 8, 2) := by decide +kernel
theorem dX6_pour_37 : decode fX6_pour.2.1 37 = .ok (.if_icmp .ge 67, 3) := by decide +kernel
theorem dX6_pour_40 : decode fX6_pour.2.1 40 = .ok (.aload_n 2, 1) := by decide +kernel
theorem dX6_pour_41 : decode fX6_pour.2.1 41 = .ok (.iload 4, 2) := by decide +kernel
theorem dX6_pour_43 : decode fX6_pour.2.1 43 = .ok (.invokevirtual 255, 3) := by decide +kernel
theorem dX6_pour_46 : decode fX6_pour.2.1 46 = .ok (.ifCond .eq 52, 3) := by decide +kernel
theorem dX6_pour_49 : decode fX6_pour.2.1 49 = .ok (.aload_n 2, 1) := by decide +kernel
theorem dX6_pour_50 : decode fX6_pour.2.1 50 = .ok (.getfield 252, 3) := by decide +kernel
theorem dX6_pour_53 : decode fX6_pour.2.1 53 = .ok (.iload 4, 2) := by decide +kernel
theorem dX6_pour_55 : decode fX6_pour.2.1 55 = .ok (.iaload, 1) := by decide +kernel
theorem dX6_pour_56 : decode fX6_pour.2.1 56 = .ok (.bipush 99, 2) := by decide +kernel
theorem dX6_pour_58 : decode fX6_pour.2.1 58 = .ok (.invokestatic 258, 3) := by decide +kernel
theorem dX6_pour_61 : decode fX6_pour.2.1 61 = .ok (.istore 5, 2) := by decide +kernel
theorem dX6_pour_63 : decode fX6_pour.2.1 63 = .ok (.iload_n 3, 1) := by decide +kernel
theorem dX6_pour_64 : decode fX6_pour.2.1 64 = .ok (.iload 5, 2) := by decide +kernel
theorem dX6_pour_66 : decode fX6_pour.2.1 66 = .ok (.aload_n 0, 1) := by decide +kernel
theorem dX6_pour_67 : decode fX6_pour.2.1 67 = .ok (.getfield 10, 3) := by decide +kernel
theorem dX6_pour_70 : decode fX6_pour.2.1 70 = .ok (.getfield 108, 3) := by decide +kernel
theorem dX6_pour_73 : decode fX6_pour.2.1 73 = .ok (.iload 4, 2) := by decide +kernel
theorem dX6_pour_75 : decode fX6_pour.2.1 75 = .ok (.iaload, 1) := by decide +kernel
theorem dX6_pour_76 : decode fX6_pour.2.1 76 = .ok (.if_icmp .ne 7, 3) := by decide +kernel
theorem dX6_pour_79 : decode fX6_pour.2.1 79 = .ok (.iconst 0, 1) := by decide +kernel
theorem dX6_pour_80 : decode fX6_pour.2.1 80 = .ok (.goto 4, 3) := by decide +kernel
theorem dX6_pour_83 : decode fX6_pour.2.1 83 = .ok (.iconst 1, 1) := by decide +kernel
theorem dX6_pour_84 : decode fX6_pour.2.1 84 = .ok (.iadd, 1) := by decide +kernel
theorem dX6_pour_85 : decode fX6_pour.2.1 85 = .ok (.istore_n 3, 1) := by decide +kernel
theorem dX6_pour_86 : decode fX6_pour.2.1 86 = .ok (.aload_n 0, 1) := by decide +kernel
theorem dX6_pour_87 : decode fX6_pour.2.1 87 = .ok (.getfield 10, 3) := by decide +kernel
theorem dX6_pour_90 : decode fX6_pour.2.1 90 = .ok (.getfield 108, 3) := by decide +kernel
theorem dX6_pour_93 : decode fX6_pour.2.1 93 = .ok (.iload 4, 2) := by decide +kernel
theorem dX6_pour_95 : decode fX6_pour.2.1 95 = .ok (.iload 5, 2) := by decide +kernel
theorem dX6_pour_97 : decode fX6_pour.2.1 97 = .ok (.iastore, 1) := by decide +kernel
theorem dX6_pour_98 : decode fX6_pour.2.1 98 = .ok (.iinc 4 1, 3) := by decide +kernel
theorem dX6_pour_101 : decode fX6_pour.2.1 101 = .ok (.goto (-68), 3) := by decide +kernel
theorem dX6_pour_104 : decode fX6_pour.2.1 104 = .ok (.iload_n 3, 1) := by decide +kernel
theorem dX6_pour_105 : decode fX6_pour.2.1 105 = .ok (.ireturn, 1) := by decide +kernel
set_option maxRecDepth 100000 in
set_option maxHeartbeats 4000000 in
theorem ok_X6_pour {X : Xb} {S : Sg} {mi : Mem} {x n : Nat} {A : Nat → Int32} {v : Int32} (hX : AsA S x) (hZ : ShZ mi x) (hA : eqOn (26 + 5 * n) (tv mi (x + 1)) A) : Ok 3 0 0 fX6_pour X [rf X x, .int v] S mi (PS S mi x (cPour mi x A n v)) := by
  refine Ok.go [some (rf X x), some (.int v), none, none, none, none] (by decide) (by simp [Value.category]) (Nat.le_of_ble_eq_true rfl) rfl ?_
  obtain ⟨k_x, ⟨r_x_now, t_now⟩, ⟨r_x_thought, t_thought⟩, ⟨r_x_image, t_image⟩, ⟨r_x_tape, t_tape⟩, ⟨r_x_sheets, k_x_sheets⟩, ⟨r_x_slots, k_x_slots⟩, ⟨r_x_waiting, k_x_waiting⟩, ⟨r_x_diff, k_x_diff⟩, a_sheets, a_slots⟩ := id hX
  obtain ⟨k_t, ⟨r_t_home, k_t_home⟩, ⟨r_t_price, k_t_price⟩, ⟨r_t_attics, k_t_attics⟩, ⟨r_t_texts, k_t_texts⟩, ⟨r_t_counting, k_t_counting⟩, ⟨r_t_names, k_t_names⟩, ⟨r_t_pile, k_t_pile⟩, ⟨r_t_views, k_t_views⟩, a_t⟩ := id t_now
  have z := Fr1.rf (x + 1) mi
  have go : ∀ i, i < 4 → ∀ z, z ≤ 24 → mi (x + 59 + 2 * i) 2 = nI z → cPour mi x A n v = ((pourS (mi (x + 59 + 2 * i + 1)) z A 8).1, (pourS (mi (x + 59 + 2 * i + 1)) z A 8).2, n) → MW X fX6_pour (rmOf 3 0 0) 0 0 33 [some (rf X x), some (.int v), some (rf X (x + 59 + 2 * i)), some (.int 0), some (.int (nI 0)), none] [] S mi (mQ X 0 0 (PS S mi x (cPour mi x A n v))) := by
    intro i hi z z24 hz hR
    have hs := (a_sheets i hi).2
    have lp := mw_dn (P := fun k => ∀ m, eqOn (26 + 5 * n) (tv m (x + 1)) (pourS (mi (x + 59 + 2 * i + 1)) z A k).2 → Fr1 (x + 1) mi m → MW X fX6_pour (rmOf 3 0 0) 0 0 33 [some (rf X x), some (.int v), some (rf X (x + 59 + 2 * i)), some (.int (pourS (mi (x + 59 + 2 * i + 1)) z A k).1), some (.int (nI k)), none] [] S m (mQ X 0 0 (PS S mi x (cPour mi x A n v)))) 8 (by
      intro m h2 hF
      refine mw_iload dX6_pour_33 rfl ?_
      refine mw_bipush (v := 8) dX6_pour_35 (by decide) ?_
      refine mw_icmp_ge (tgt := 104) dX6_pour_37 (by decide) (fun h37 => ?_) (fun h37 => ?_)
      · skip
        refine mw_iload_n dX6_pour_104 rfl ?_
        exact mw_iret dX6_pour_105 rfl (by decide) (by decide) (by rw [hR]; exact ⟨rfl, rfl, h2, hF⟩)
      · skip
        exact absurd (by decide) h37) (fun k hk ih => by
      intro m h2 hF
      have eq2 : m (x + 59 + 2 * i) 2 = nI z := by rw [hF _ (by omega)]; exact hz
      have eqc : m (x + 59 + 2 * i + 1) = mi (x + 59 + 2 * i + 1) := hF _ (by omega)
      have ep : m (x + 1 + 2) k = (pourS (mi (x + 59 + 2 * i + 1)) z A k).2 (18 + k) := tv_price h2 hk (by omega)
      simp only [pourS] at ih
      refine mw_iload dX6_pour_33 rfl ?_
      refine mw_bipush (v := 8) dX6_pour_35 (by decide) ?_
      refine mw_icmp_ge (tgt := 104) dX6_pour_37 (by decide) (fun h37 => ?_) (fun h37 => ?_)
      · skip
        exact absurd h37 (nI_ge (b := 8) hk (by decide))
      · skip
        refine mw_aload_n dX6_pour_40 rfl ?_
        refine mw_iload dX6_pour_41 rfl ?_
        refine mw_cVI (g := fX1_hasNumber) dX6_pour_43 ml_X6_255 mfX1_hasNumber (ok_X1_hasNumber hs eq2 z24) (hs.1) rfl rfl (Nat.le_of_ble_eq_true rfl) ⟨by decide, by decide⟩ ⟨by decide, by decide⟩ ?_
        rw [eqc]
        refine mw_if_eqB (tgt := 98) dX6_pour_46 (by decide) (fun h46 => ?_) (fun h46 => ?_)
        · skip
          refine mw_iincK (k := k) dX6_pour_98 rfl rfl (by decide) ?_
          refine mw_goto (tgt := 33) dX6_pour_101 (by decide) ?_
          first
            | (rw [if_neg (fun g => h46 ((hnIff (by omega) (by omega)).mpr g))] at ih; exact MW.sub (by simp [lsub]) (ih m h2 hF))
            | (rw [if_pos hc, if_pos h76] at ih; exact MW.sub (by simp [lsub]) (ih _ (tv_upP hk h2) (hF.up (by omega))))
            | (rw [if_pos hc, if_neg h76] at ih; exact MW.sub (by simp [lsub]) (ih _ (tv_upP hk h2) (hF.up (by omega))))
            | fail "stop"
        · skip
          have hc := (hnIff (by omega) (by omega)).mp h46
          refine mw_aload_n dX6_pour_49 rfl ?_
          refine mw_getr dX6_pour_50 fl_X6_252 rfl (hs.1) (hs.2.1) ?_
          refine mw_iload dX6_pour_53 rfl ?_
          refine mw_ialdK (k := k) dX6_pour_55 (hs.2.2) (rfl) (by omega) (by decide) ?_
          rw [eqc]
          refine mw_bipush (v := 99) dX6_pour_56 (by decide) ?_
          refine mw_cSI (g := fX6_held) dX6_pour_58 ml_X6_258 mfX6_held (ok_X6_held) rfl rfl (Nat.le_of_ble_eq_true rfl) ⟨by decide, by decide⟩ ⟨by decide, by decide⟩ ?_
          refine mw_istore dX6_pour_61 (by decide) ?_
          refine mw_iload_n dX6_pour_63 rfl ?_
          refine mw_iload dX6_pour_64 rfl ?_
          refine mw_aload_n dX6_pour_66 rfl ?_
          refine mw_getr dX6_pour_67 fl_X6_10 rfl (by assumption) (by assumption) ?_
          refine mw_getr dX6_pour_70 fl_X6_108 rfl (by assumption) (by assumption) ?_
          refine mw_iload dX6_pour_73 rfl ?_
          refine mw_ialdK (k := k) dX6_pour_75 (by assumption) (rfl) (by omega) (by decide) ?_
          rw [ep]
          refine mw_icmp_ne (tgt := 83) dX6_pour_76 (by decide) (fun h76 => ?_) (fun h76 => ?_)
          · skip
            refine mw_iconst (v := 1) dX6_pour_83 (by decide) ?_
            refine mw_iadd dX6_pour_84 ?_
            refine mw_istN 3 dX6_pour_85 rfl (by decide) ?_
            refine mw_aload_n dX6_pour_86 rfl ?_
            refine mw_getr dX6_pour_87 fl_X6_10 rfl (by assumption) (by assumption) ?_
            refine mw_getr dX6_pour_90 fl_X6_108 rfl (by assumption) (by assumption) ?_
            refine mw_iload dX6_pour_93 rfl ?_
            refine mw_iload dX6_pour_95 rfl ?_
            refine mw_iastK (k := k) dX6_pour_97 (by assumption) (rfl) (by omega) (by decide) ?_
            refine mw_iincK (k := k) dX6_pour_98 rfl rfl (by decide) ?_
            refine mw_goto (tgt := 33) dX6_pour_101 (by decide) ?_
            first
              | (rw [if_neg (fun g => h46 ((hnIff (by omega) (by omega)).mpr g))] at ih; exact MW.sub (by simp [lsub]) (ih m h2 hF))
              | (rw [if_pos hc, if_pos h76] at ih; exact MW.sub (by simp [lsub]) (ih _ (tv_upP hk h2) (hF.up (by omega))))
              | (rw [if_pos hc, if_neg h76] at ih; exact MW.sub (by simp [lsub]) (ih _ (tv_upP hk h2) (hF.up (by omega))))
              | fail "stop"
          · skip
            refine mw_iconst (v := 0) dX6_pour_79 (by decide) ?_
            refine mw_goto (tgt := 84) dX6_pour_80 (by decide) ?_
            refine mw_iadd dX6_pour_84 ?_
            refine mw_istN 3 dX6_pour_85 rfl (by decide) ?_
            refine mw_aload_n dX6_pour_86 rfl ?_
            refine mw_getr dX6_pour_87 fl_X6_10 rfl (by assumption) (by assumption) ?_
            refine mw_getr dX6_pour_90 fl_X6_108 rfl (by assumption) (by assumption) ?_
            refine mw_iload dX6_pour_93 rfl ?_
            refine mw_iload dX6_pour_95 rfl ?_
            refine mw_iastK (k := k) dX6_pour_97 (by assumption) (rfl) (by omega) (by decide) ?_
            refine mw_iincK (k := k) dX6_pour_98 rfl rfl (by decide) ?_
            refine mw_goto (tgt := 33) dX6_pour_101 (by decide) ?_
            first
              | (rw [if_neg (fun g => h46 ((hnIff (by omega) (by omega)).mpr g))] at ih; exact MW.sub (by simp [lsub]) (ih m h2 hF))
              | (rw [if_pos hc, if_pos h76] at ih; exact MW.sub (by simp [lsub]) (ih _ (tv_upP hk h2) (hF.up (by omega))))
              | (rw [if_pos hc, if_neg h76] at ih; exact MW.sub (by simp [lsub]) (ih _ (tv_upP hk h2) (hF.up (by omega))))
              | fail "stop")
    exact MW.sub (by simp [lsub, pourS]) (lp mi hA (Fr1.rf _ _))
  refine mw_iload_n dX6_pour_0 rfl ?_
  refine mw_cSI (g := fX6_isSheet) dX6_pour_1 ml_X6_187 mfX6_isSheet (ok_X6_isSheet) rfl rfl (Nat.le_of_ble_eq_true rfl) ⟨by decide, by decide⟩ ⟨by decide, by decide⟩ ?_
  refine mw_if_neB (tgt := 10) dX6_pour_4 (by decide) (fun h4 => ?_) (fun h4 => ?_)
  · skip
    obtain ⟨i, hi, hv⟩ := inB 3 (by decide) h4
    have ev : v.toNatClampNeg = i := by rw [hv, nI_clamp (by omega)]
    have hs := (a_sheets i (by omega)).2
    obtain ⟨y, y24, hy⟩ := hZ i (by omega)
    refine mw_aload_n dX6_pour_10 rfl ?_
    refine mw_getr dX6_pour_11 fl_X6_31 rfl (by assumption) (by assumption) ?_
    refine mw_iload_n dX6_pour_14 rfl ?_
    refine mw_aldK (k := i) dX6_pour_15 (by assumption) (by decide) (hv) (by omega) (by decide) ((a_sheets i (by omega)).1) ?_
    refine mw_astN 2 dX6_pour_16 rfl (by decide) ?_
    refine mw_aload_n dX6_pour_17 rfl ?_
    refine mw_geti dX6_pour_18 fl_X6_190 rfl (hs.1) ?_
    refine mw_iconst (v := (-1)) dX6_pour_21 (by decide) ?_
    refine mw_icmp_ne (tgt := 28) dX6_pour_22 (by decide) (fun h22 => ?_) (fun h22 => ?_)
    · skip
      refine mw_iconst (v := 0) dX6_pour_28 (by decide) ?_
      refine mw_istN 3 dX6_pour_29 rfl (by decide) ?_
      refine mw_iconst (v := 0) dX6_pour_30 (by decide) ?_
      refine mw_istore dX6_pour_31 (by decide) ?_
      exact MW.sub (by simp [lsub, nI_0]) (go i (by omega) y y24 hy (by rw [cPour, if_pos h4, ev, if_neg h22, hy, nI_clamp (by omega)]))
    · skip
      refine mw_ldc dX6_pour_25 cn_X6_193 ?_
      exact mw_iret dX6_pour_27 rfl (by decide) (by decide) (by rw [cPour, if_pos h4, ev, if_pos h22]; exact ⟨rfl, rfl, hA, z⟩)
  · skip
    refine mw_ldc dX6_pour_7 cn_X6_58 ?_
    exact mw_iret dX6_pour_9 rfl (by decide) (by decide) (by rw [cPour, if_neg h4]; exact ⟨rfl, rfl, hA, z⟩)
def rdP (c A : Nat → Int32) (n k : Nat) : Bool := !decide (c k = NONEi) && !(decide (k < n) && decide (c k = A (26 + 5 * k + 1)))
def cReads (mi : Mem) (x : Nat) (A : Nat → Int32) (n : Nat) (v : Int32) : Int32 := if 0 ≤ v ∧ v ≤ 3 then (if mi (x + 59 + 2 * v.toNatClampNeg) 1 = -1 then NOTHINGi else fndK (rdP (mi (x + 59 + 2 * v.toNatClampNeg + 1)) A n) (mi (x + 59 + 2 * v.toNatClampNeg) 2).toNatClampNeg 0) else BADi
theorem dX6_reads_0 : decode fX6_reads.2.1 0 = .ok (.iload_n 1, 1) := by decide +kernel
theorem dX6_reads_1 : decode fX6_reads.2.1 1 = .ok (.invokestatic 187, 3) := by decide +kernel
theorem dX6_reads_4 : decode fX6_reads.2.1 4 = .ok (.ifCond .ne 6, 3) := by decide +kernel
theorem dX6_reads_7 : decode fX6_reads.2.1 7 = .ok (.ldc 58, 2) := by decide +kernel
theorem dX6_reads_9 : decode fX6_reads.2.1 9 = .ok (.ireturn, 1) := by decide +kernel
theorem dX6_reads_10 : decode fX6_reads.2.1 10 = .ok (.aload_n 0, 1) := by decide +kernel
theorem dX6_reads_11 : decode fX6_reads.2.1 11 = .ok (.getfield 31, 3) := by decide +kernel
theorem dX6_reads_14 : decode fX6_reads.2.1 14 = .ok (.iload_n 1, 1) := by decide +kernel
theorem dX6_reads_15 : decode fX6_reads.2.1 15 = .ok (.aaload, 1) := by decide +kernel
theorem dX6_reads_16 : decode fX6_reads.2.1 16 = .ok (.astore_n 2, 1) := by decide +kernel
theorem dX6_reads_17 : decode fX6_reads.2.1 17 = .ok (.aload_n 2, 1) := by decide +kernel
theorem dX6_reads_18 : decode fX6_reads.2.1 18 = .ok (.getfield 190, 3) := by decide +kernel
theorem dX6_reads_21 : decode fX6_reads.2.1 21 = .ok (.iconst (-1), 1) := by decide +kernel
theorem dX6_reads_22 : decode fX6_reads.2.1 22 = .ok (.if_icmp .ne 6, 3) := by decide +kernel
theorem dX6_reads_25 : decode fX6_reads.2.1 25 = .ok (.ldc 193, 2) := by decide +kernel
theorem dX6_reads_27 : decode fX6_reads.2.1 27 = .ok (.ireturn, 1) := by decide +kernel
theorem dX6_reads_28 : decode fX6_reads.2.1 28 = .ok (.iconst 0, 1) := by decide +kernel
theorem dX6_reads_29 : decode fX6_reads.2.1 29 = .ok (.istore_n 3, 1) := by decide +kernel
theorem dX6_reads_30 : decode fX6_reads.2.1 30 = .ok (.iload_n 3, 1) := by decide +kernel
theorem dX6_reads_31 : decode fX6_reads.2.1 31 = .ok (.aload_n 2, 1) := by decide +kernel
theorem dX6_reads_32 : decode fX6_reads.2.1 32 = .ok (.getfield 261, 3) := by decide +kernel
theorem dX6_reads_35 : decode fX6_reads.2.1 35 = .ok (.if_icmp .ge 48, 3) := by decide +kernel
theorem dX6_reads_38 : decode fX6_reads.2.1 38 = .ok (.aload_n 2, 1) := by decide +kernel
theorem dX6_reads_39 : decode fX6_reads.2.1 39 = .ok (.iload_n 3, 1) := by decide +kernel
theorem dX6_reads_40 : decode fX6_reads.2.1 40 = .ok (.invokevirtual 255, 3) := by decide +kernel
theorem dX6_reads_43 : decode fX6_reads.2.1 43 = .ok (.ifCond .eq 34, 3) := by decide +kernel
theorem dX6_reads_46 : decode fX6_reads.2.1 46 = .ok (.aload_n 0, 1) := by decide +kernel
theorem dX6_reads_47 : decode fX6_reads.2.1 47 = .ok (.iload_n 3, 1) := by decide +kernel
theorem dX6_reads_48 : decode fX6_reads.2.1 48 = .ok (.invokevirtual 63, 3) := by decide +kernel
theorem dX6_reads_51 : decode fX6_reads.2.1 51 = .ok (.ifCond .eq 24, 3) := by decide +kernel
theorem dX6_reads_54 : decode fX6_reads.2.1 54 = .ok (.aload_n 2, 1) := by decide +kernel
theorem dX6_reads_55 : decode fX6_reads.2.1 55 = .ok (.getfield 252, 3) := by decide +kernel
theorem dX6_reads_58 : decode fX6_reads.2.1 58 = .ok (.iload_n 3, 1) := by decide +kernel
theorem dX6_reads_59 : decode fX6_reads.2.1 59 = .ok (.iaload, 1) := by decide +kernel
theorem dX6_reads_60 : decode fX6_reads.2.1 60 = .ok (.aload_n 0, 1) := by decide +kernel
theorem dX6_reads_61 : decode fX6_reads.2.1 61 = .ok (.getfield 10, 3) := by decide +kernel
theorem dX6_reads_64 : decode fX6_reads.2.1 64 = .ok (.getfield 66, 3) := by decide +kernel
theorem dX6_reads_67 : decode fX6_reads.2.1 67 = .ok (.iload_n 3, 1) := by decide +kernel
theorem dX6_reads_68 : decode fX6_reads.2.1 68 = .ok (.aaload, 1) := by decide +kernel
theorem dX6_reads_69 : decode fX6_reads.2.1 69 = .ok (.getfield 76, 3) := by decide +kernel
theorem dX6_reads_72 : decode fX6_reads.2.1 72 = .ok (.if_icmp .eq 5, 3) := by decide +kernel
theorem dX6_reads_75 : decode fX6_reads.2.1 75 = .ok (.iload_n 3, 1) := by decide +kernel
theorem dX6_reads_76 : decode fX6_reads.2.1 76 = .ok (.ireturn, 1) := by decide +kernel
theorem dX6_reads_77 : decode fX6_reads.2.1 77 = .ok (.iinc 3 1, 3) := by decide +kernel
theorem dX6_reads_80 : decode fX6_reads.2.1 80 = .ok (.goto (-50), 3) := by decide +kernel
theorem dX6_reads_83 : decode fX6_reads.2.1 83 = .ok (.ldc 182, 2) := by decide +kernel
theorem dX6_reads_85 : decode fX6_reads.2.1 85 = .ok (.ireturn, 1) := by decide +kernel
set_option maxRecDepth 100000 in
set_option maxHeartbeats 4000000 in
theorem ok_X6_reads {X : Xb} {S : Sg} {mi : Mem} {x n : Nat} {A : Nat → Int32} {v : Int32} (hX : AsA S x) (hZ : ShZ mi x) (hn8 : n ≤ 8) (hA : eqOn (26 + 5 * n) (tv mi (x + 1)) A) (hn : A 1 = nI n) : Ok 3 0 0 fX6_reads X [rf X x, .int v] S mi (PE S (cReads mi x A n v, mi)) := by
  refine Ok.go [some (rf X x), some (.int v), none, none] (by decide) (by simp [Value.category]) (Nat.le_of_ble_eq_true rfl) rfl ?_
  obtain ⟨k_x, ⟨r_x_now, t_now⟩, ⟨r_x_thought, t_thought⟩, ⟨r_x_image, t_image⟩, ⟨r_x_tape, t_tape⟩, ⟨r_x_sheets, k_x_sheets⟩, ⟨r_x_slots, k_x_slots⟩, ⟨r_x_waiting, k_x_waiting⟩, ⟨r_x_diff, k_x_diff⟩, a_sheets, a_slots⟩ := id hX
  obtain ⟨k_t, ⟨r_t_home, k_t_home⟩, ⟨r_t_price, k_t_price⟩, ⟨r_t_attics, k_t_attics⟩, ⟨r_t_texts, k_t_texts⟩, ⟨r_t_counting, k_t_counting⟩, ⟨r_t_names, k_t_names⟩, ⟨r_t_pile, k_t_pile⟩, ⟨r_t_views, k_t_views⟩, a_t⟩ := id t_now
  have ec : mi (x + 1) 3 = nI n := by rw [show (3 : Nat) = tvF 1 from rfl, tv_0 hA (by decide) (by omega), hn]
  have go : ∀ i, i < 4 → ∀ z, z ≤ 24 → mi (x + 59 + 2 * i) 2 = nI z → ∀ f k, f + k = z → fndK (rdP (mi (x + 59 + 2 * i + 1)) A n) f k = cReads mi x A n v → MW X fX6_reads (rmOf 3 0 0) 0 0 30 [some (rf X x), some (.int v), some (rf X (x + 59 + 2 * i)), some (.int (nI k))] [] S mi (mQ X 0 0 (PE S (cReads mi x A n v, mi))) := by
    intro i hi z z24 hz f
    have hs := (a_sheets i hi).2
    induction f with
    | zero =>
      intro k hk hR
      obtain rfl : k = z := by omega
      refine mw_iload_n dX6_reads_30 rfl ?_
      refine mw_aload_n dX6_reads_31 rfl ?_
      refine mw_geti dX6_reads_32 fl_X6_261 rfl (hs.1) ?_
      rw [hz]
      refine mw_icmp_ge (tgt := 83) dX6_reads_35 (by decide) (fun h35 => ?_) (fun h35 => ?_)
      · skip
        refine mw_ldc dX6_reads_83 cn_X6_182 ?_
        exact mw_iret dX6_reads_85 rfl (by decide) (by decide) (by rw [← hR]; exact ⟨rfl, rfl, rfl⟩)
      · skip
        exact absurd (Int32.le_refl _) h35
    | succ f ih =>
      intro k hk hR
      simp only [fndK] at hR
      refine mw_iload_n dX6_reads_30 rfl ?_
      refine mw_aload_n dX6_reads_31 rfl ?_
      refine mw_geti dX6_reads_32 fl_X6_261 rfl (hs.1) ?_
      rw [hz]
      refine mw_icmp_ge (tgt := 83) dX6_reads_35 (by decide) (fun h35 => ?_) (fun h35 => ?_)
      · skip
        exact absurd h35 (nI_ge (by omega) (by omega))
      · skip
        refine mw_aload_n dX6_reads_38 rfl ?_
        refine mw_iload_n dX6_reads_39 rfl ?_
        refine mw_cVI (g := fX1_hasNumber) dX6_reads_40 ml_X6_255 mfX1_hasNumber (ok_X1_hasNumber hs hz z24) (hs.1) rfl rfl (Nat.le_of_ble_eq_true rfl) ⟨by decide, by decide⟩ ⟨by decide, by decide⟩ ?_
        refine mw_if_eqB (tgt := 77) dX6_reads_43 (by decide) (fun h43 => ?_) (fun h43 => ?_)
        · skip
          refine mw_iincK (k := k) dX6_reads_77 rfl rfl (by decide) ?_
          refine mw_goto (tgt := 30) dX6_reads_80 (by decide) ?_
          refine MW.sub (by simp [lsub]) (ih (k + 1) (by omega) ?_)
          first
            | (have q1 := kn; have q2 := h72; rw [if_neg (by simp [rdP, q1, q2])] at hR; exact hR)
            | (rw [if_neg (by have e : mi (x + 59 + 2 * i + 1) k = NONEi := Classical.not_not.mp (fun g => h43 ((hnIff (by omega) (by omega)).mpr ⟨by omega, g⟩)); simp [rdP, e])] at hR; exact hR)
        · skip
          have hc := (hnIff (by omega) (by omega)).mp h43
          refine mw_aload_n dX6_reads_46 rfl ?_
          refine mw_iload_n dX6_reads_47 rfl ?_
          refine mw_cVI (g := fX6_isAttic) dX6_reads_48 ml_X6_63 mfX6_isAttic (ok_X6_isAttic hX ec) (by assumption) rfl rfl (Nat.le_of_ble_eq_true rfl) ⟨by decide, by decide⟩ ⟨by decide, by decide⟩ ?_
          refine mw_if_eqB (tgt := 75) dX6_reads_51 (by decide) (fun h51 => ?_) (fun h51 => ?_)
          · skip
            refine mw_iload_n dX6_reads_75 rfl ?_
            exact mw_iret dX6_reads_76 rfl (by decide) (by decide) (by first | (have q1 := kn; have q2 := h72; rw [if_pos (by simp [rdP, hc.2, q1, q2])] at hR; rw [← hR]; exact ⟨rfl, rfl, rfl⟩) | (rw [if_pos (by simp only [rdP, Bool.and_eq_true, Bool.not_eq_true', decide_eq_false_iff_not, Bool.and_eq_false_iff]; exact ⟨hc.2, Or.inl (fun g => h51 (Nin g (by omega)))⟩)] at hR; rw [← hR]; exact ⟨rfl, rfl, rfl⟩) | fail "leaf")
          · skip
            have kn : k < n := by
              obtain ⟨a, ha, e⟩ := inAt h51 hn8
              have : k = a := (nI_eq (by omega) (by omega)).mp e
              omega
            have hka := (a_t k (by omega)).2
            have ef := tv_A (a := k) (f := 1) hA (by decide) (by omega)
            refine mw_aload_n dX6_reads_54 rfl ?_
            refine mw_getr dX6_reads_55 fl_X6_252 rfl (hs.1) (hs.2.1) ?_
            refine mw_iload_n dX6_reads_58 rfl ?_
            refine mw_ialdK (k := k) dX6_reads_59 (hs.2.2) (rfl) (by omega) (by decide) ?_
            refine mw_aload_n dX6_reads_60 rfl ?_
            refine mw_getr dX6_reads_61 fl_X6_10 rfl (by assumption) (by assumption) ?_
            refine mw_getr dX6_reads_64 fl_X6_66 rfl (by assumption) (by assumption) ?_
            refine mw_iload_n dX6_reads_67 rfl ?_
            refine mw_aldK (k := k) dX6_reads_68 (by assumption) (by decide) (rfl) (by omega) (by decide) ((a_t k (by omega)).1) ?_
            refine mw_geti dX6_reads_69 fl_X6_76 rfl (hka) ?_
            rw [ef]
            refine mw_icmp_eq (tgt := 77) dX6_reads_72 (by decide) (fun h72 => ?_) (fun h72 => ?_)
            · skip
              refine mw_iincK (k := k) dX6_reads_77 rfl rfl (by decide) ?_
              refine mw_goto (tgt := 30) dX6_reads_80 (by decide) ?_
              refine MW.sub (by simp [lsub]) (ih (k + 1) (by omega) ?_)
              first
                | (have q1 := kn; have q2 := h72; rw [if_neg (by simp [rdP, q1, q2])] at hR; exact hR)
                | (rw [if_neg (by have e : mi (x + 59 + 2 * i + 1) k = NONEi := Classical.not_not.mp (fun g => h43 ((hnIff (by omega) (by omega)).mpr ⟨by omega, g⟩)); simp [rdP, e])] at hR; exact hR)
            · skip
              refine mw_iload_n dX6_reads_75 rfl ?_
              exact mw_iret dX6_reads_76 rfl (by decide) (by decide) (by first | (have q1 := kn; have q2 := h72; rw [if_pos (by simp [rdP, hc.2, q1, q2])] at hR; rw [← hR]; exact ⟨rfl, rfl, rfl⟩) | (rw [if_pos (by simp only [rdP, Bool.and_eq_true, Bool.not_eq_true', decide_eq_false_iff_not, Bool.and_eq_false_iff]; exact ⟨hc.2, Or.inl (fun g => h51 (Nin g (by omega)))⟩)] at hR; rw [← hR]; exact ⟨rfl, rfl, rfl⟩) | fail "leaf")
  refine mw_iload_n dX6_reads_0 rfl ?_
  refine mw_cSI (g := fX6_isSheet) dX6_reads_1 ml_X6_187 mfX6_isSheet (ok_X6_isSheet) rfl rfl (Nat.le_of_ble_eq_true rfl) ⟨by decide, by decide⟩ ⟨by decide, by decide⟩ ?_
  refine mw_if_neB (tgt := 10) dX6_reads_4 (by decide) (fun h4 => ?_) (fun h4 => ?_)
  · skip
    obtain ⟨i, hi, hv⟩ := inB 3 (by decide) h4
    have ev : v.toNatClampNeg = i := by rw [hv, nI_clamp (by omega)]
    have hs := (a_sheets i (by omega)).2
    obtain ⟨y, y24, hy⟩ := hZ i (by omega)
    refine mw_aload_n dX6_reads_10 rfl ?_
    refine mw_getr dX6_reads_11 fl_X6_31 rfl (by assumption) (by assumption) ?_
    refine mw_iload_n dX6_reads_14 rfl ?_
    refine mw_aldK (k := i) dX6_reads_15 (by assumption) (by decide) (hv) (by omega) (by decide) ((a_sheets i (by omega)).1) ?_
    refine mw_astN 2 dX6_reads_16 rfl (by decide) ?_
    refine mw_aload_n dX6_reads_17 rfl ?_
    refine mw_geti dX6_reads_18 fl_X6_190 rfl (hs.1) ?_
    refine mw_iconst (v := (-1)) dX6_reads_21 (by decide) ?_
    refine mw_icmp_ne (tgt := 28) dX6_reads_22 (by decide) (fun h22 => ?_) (fun h22 => ?_)
    · skip
      refine mw_iconst (v := 0) dX6_reads_28 (by decide) ?_
      refine mw_istN 3 dX6_reads_29 rfl (by decide) ?_
      exact MW.sub (by simp [lsub, nI_0]) (go i (by omega) y y24 hy y 0 rfl (by rw [cReads, if_pos h4, ev, if_neg h22, hy, nI_clamp (by omega)]))
    · skip
      refine mw_ldc dX6_reads_25 cn_X6_193 ?_
      exact mw_iret dX6_reads_27 rfl (by decide) (by decide) (by rw [cReads, if_pos h4, ev, if_pos h22]; exact ⟨rfl, rfl, rfl⟩)
  · skip
    refine mw_ldc dX6_reads_7 cn_X6_58 ?_
    exact mw_iret dX6_reads_9 rfl (by decide) (by decide) (by rw [cReads, if_neg h4]; exact ⟨rfl, rfl, rfl⟩)
def apR (f : Nat → Int32) (l : Nat) (a : Int32) : Nat → Nat → Int32
  | 0 => f
  | k + 1 => upd (apR f l a k) (l + k) ((a >>> ((24 - 8 * nI k) &&& 31)) &&& 255)
theorem apSh : ∀ k, k < 4 → ¬ (24 - 8 * nI k : Int32) < 0 := by decide
theorem apSt : ∀ k, k < 4 → (24 - 8 * nI k : Int32) + Int32.ofInt (-8) = 24 - 8 * nI (k + 1) := by decide
theorem apEnd : (24 - 8 * nI 4 : Int32) < 0 := by decide
theorem dX3_append_0 : decode fX3_append.2.1 0 = .ok (.bipush 24, 2) := by decide +kernel
theorem dX3_append_2 : decode fX3_append.2.1 2 = .ok (.istore_n 2, 1) := by decide +kernel
theorem dX3_append_3 : decode fX3_append.2.1 3 = .ok (.iload_n 2, 1) := by decide +kernel
theorem dX3_append_4 : decode fX3_append.2.1 4 = .ok (.ifCond .lt 44, 3) := by decide +kernel
theorem dX3_append_7 : decode fX3_append.2.1 7 = .ok (.aload_n 0, 1) := by decide +kernel
theorem dX3_append_8 : decode fX3_append.2.1 8 = .ok (.getfield 18, 3) := by decide +kernel
theorem dX3_append_11 : decode fX3_append.2.1 11 = .ok (.bipush 96, 2) := by decide +kernel
theorem dX3_append_13 : decode fX3_append.2.1 13 = .ok (.if_icmp .ge 35, 3) := by decide +kernel
theorem dX3_append_16 : decode fX3_append.2.1 16 = .ok (.aload_n 0, 1) := by decide +kernel
theorem dX3_append_17 : decode fX3_append.2.1 17 = .ok (.getfield 9, 3) := by decide +kernel
theorem dX3_append_20 : decode fX3_append.2.1 20 = .ok (.aload_n 0, 1) := by decide +kernel
theorem dX3_append_21 : decode fX3_append.2.1 21 = .ok (.getfield 18, 3) := by decide +kernel
theorem dX3_append_24 : decode fX3_append.2.1 24 = .ok (.iload_n 1, 1) := by decide +kernel
theorem dX3_append_25 : decode fX3_append.2.1 25 = .ok (.iload_n 2, 1) := by decide +kernel
theorem dX3_append_26 : decode fX3_append.2.1 26 = .ok (.ishr, 1) := by decide +kernel
theorem dX3_append_27 : decode fX3_append.2.1 27 = .ok (.sipush 255, 3) := by decide +kernel
theorem dX3_append_30 : decode fX3_append.2.1 30 = .ok (.iand, 1) := by decide +kernel
theorem dX3_append_31 : decode fX3_append.2.1 31 = .ok (.iastore, 1) := by decide +kernel
theorem dX3_append_32 : decode fX3_append.2.1 32 = .ok (.aload_n 0, 1) := by decide +kernel
theorem dX3_append_33 : decode fX3_append.2.1 33 = .ok (.dup, 1) := by decide +kernel
theorem dX3_append_34 : decode fX3_append.2.1 34 = .ok (.getfield 18, 3) := by decide +kernel
theorem dX3_append_37 : decode fX3_append.2.1 37 = .ok (.iconst 1, 1) := by decide +kernel
theorem dX3_append_38 : decode fX3_append.2.1 38 = .ok (.iadd, 1) := by decide +kernel
theorem dX3_append_39 : decode fX3_append.2.1 39 = .ok (.putfield 18, 3) := by decide +kernel
theorem dX3_append_42 : decode fX3_append.2.1 42 = .ok (.iinc 2 (-8), 3) := by decide +kernel
theorem dX3_append_45 : decode fX3_append.2.1 45 = .ok (.goto (-42), 3) := by decide +kernel
theorem dX3_append_48 : decode fX3_append.2.1 48 = .ok (.return_, 1) := by decide +kernel
set_option maxRecDepth 100000 in
set_option maxHeartbeats 4000000 in
theorem ok_X3_append {X : Xb} {S : Sg} {mi : Mem} {q l : Nat} {a : Int32} (hT : TpA S q) (hl : mi q 1 = nI l) (hl96 : l + 4 ≤ 96) : Ok 0 0 0 fX3_append X [rf X q, .int a] S mi (fun r S' m => r = none ∧ S' = S ∧ m q = upd (mi q) 1 (nI (l + 4)) ∧ m (q + 1) = apR (mi (q + 1)) l a 4 ∧ ∀ i, i ≠ q → i ≠ q + 1 → m i = mi i) := by
  refine Ok.go [some (rf X q), some (.int a), none] (by decide) (by simp [Value.category]) (Nat.le_of_ble_eq_true rfl) rfl ?_
  obtain ⟨k_q, ⟨r_q_bytes, k_q_bytes⟩, ⟨r_q_steps, k_q_steps⟩⟩ := id hT
  have n1 : q ≠ q + 1 := by omega
  have n2 : q + 1 ≠ q := by omega
  have lp := mw_dn (P := fun k => ∀ m, m q = upd (mi q) 1 (nI (l + k)) → m (q + 1) = apR (mi (q + 1)) l a k → (∀ i, i ≠ q → i ≠ q + 1 → m i = mi i) → MW X fX3_append (rmOf 0 0 0) 0 0 3 [some (rf X q), some (.int a), some (.int (24 - 8 * nI k))] [] S m (mQ X 0 0 (fun r S' m => r = none ∧ S' = S ∧ m q = upd (mi q) 1 (nI (l + 4)) ∧ m (q + 1) = apR (mi (q + 1)) l a 4 ∧ ∀ i, i ≠ q → i ≠ q + 1 → m i = mi i))) 4 (by
    intro m g1 g2 g3
    refine mw_iload_n dX3_append_3 rfl ?_
    refine mw_if_lt (tgt := 48) dX3_append_4 (by decide) (fun h4 => ?_) (fun h4 => ?_)
    · skip
      exact mw_vret dX3_append_48 rfl (by decide) (by decide) (⟨rfl, rfl, g1, g2, g3⟩)
    · skip
      exact absurd apEnd h4) (fun k hk ih => by
    intro m g1 g2 g3
    have e1 : m q 1 = nI (l + k) := by rw [g1, upd_at]
    refine mw_iload_n dX3_append_3 rfl ?_
    refine mw_if_lt (tgt := 48) dX3_append_4 (by decide) (fun h4 => ?_) (fun h4 => ?_)
    · skip
      first
        | exact absurd h4 (apSh k hk)
        | exact absurd h13 (nI_ge (b := 96) (by omega) (by decide))
        | fail "stop"
    · skip
      refine mw_aload_n dX3_append_7 rfl ?_
      refine mw_geti dX3_append_8 fl_X3_18 rfl (by assumption) ?_
      refine mw_bipush (v := 96) dX3_append_11 (by decide) ?_
      rw [e1]
      refine mw_icmp_ge (tgt := 48) dX3_append_13 (by decide) (fun h13 => ?_) (fun h13 => ?_)
      · skip
        first
          | exact absurd h4 (apSh k hk)
          | exact absurd h13 (nI_ge (b := 96) (by omega) (by decide))
          | fail "stop"
      · skip
        refine mw_aload_n dX3_append_16 rfl ?_
        refine mw_getr dX3_append_17 fl_X3_9 rfl (by assumption) (by assumption) ?_
        refine mw_aload_n dX3_append_20 rfl ?_
        refine mw_geti dX3_append_21 fl_X3_18 rfl (by assumption) ?_
        rw [e1]
        refine mw_iload_n dX3_append_24 rfl ?_
        refine mw_iload_n dX3_append_25 rfl ?_
        refine mw_ishr dX3_append_26 ?_
        refine mw_sipush (v := 255) dX3_append_27 (by decide) ?_
        refine mw_iand dX3_append_30 ?_
        refine mw_iastK (k := l + k) dX3_append_31 (by assumption) (rfl) (by omega) (by decide) ?_
        refine mw_aload_n dX3_append_32 rfl ?_
        refine mw_dup dX3_append_33 rfl ?_
        refine mw_geti dX3_append_34 fl_X3_18 rfl (by assumption) ?_
        rw [m_up_ne n1, e1]
        refine mw_iconst (v := 1) dX3_append_37 (by decide) ?_
        refine mw_iadd dX3_append_38 ?_
        rw [nI_1]
        refine mw_puti dX3_append_39 fl_X3_18 ft_3_1 rfl (rfl) rfl (by assumption) ?_
        refine mw_iinc dX3_append_42 rfl (by decide) rfl ?_
        rw [apSt k hk]
        refine mw_goto (tgt := 3) dX3_append_45 (by decide) ?_
        refine MW.sub (by simp [lsub]) (ih _ ?_ ?_ (fun i h1 h2 => by rw [m_up_ne h1, m_up_ne h2]; exact g3 i h1 h2))
        · rw [m_up_row, m_up_ne n1, g1, upd_upd]; rfl
        · rw [m_up_ne n2, m_up_row, g2]; rfl)
  refine mw_bipush (v := 24) dX3_append_0 (by decide) ?_
  refine mw_istN 2 dX3_append_2 rfl (by decide) ?_
  exact MW.sub (by simp [lsub]; decide) (lp mi (by rw [Nat.add_zero, ← hl, upd_id]) rfl (fun _ _ _ => rfl))
def fdW (a b c : Int32) (k : Nat) : Int32 := if k < 4 then a else if k < 8 then b else c
def fdR (f : Nat → Int32) (l : Nat) (a b c : Int32) : Nat → Nat → Int32
  | 0 => f
  | k + 1 => upd (fdR f l a b c k) (l + k) ((fdW a b c k >>> ((24 - 8 * nI (k % 4)) &&& 31)) &&& 255)
theorem apR3 (f : Nat → Int32) (l : Nat) (a b c : Int32) : apR (apR (apR f l a 4) (l + 4) b 4) (l + 4 + 4) c 4 = fdR f l a b c 12 := by
  simp [apR, fdR, fdW, Nat.add_assoc]
def PF (S : Sg) (mi : Mem) (t b fl l : Nat) (x y z : Int32) : Pt3 := fun r S' m => S' = S ∧ ((96 < l + 12 ∧ r = some (.int FULLi) ∧ m = mi) ∨ (l + 12 ≤ 96 ∧ r = some (.int (nI (l + 12))) ∧ m t = upd (mi t) fl (nI (l + 12)) ∧ m b = fdR (mi b) l x y z 12 ∧ ∀ i, i ≠ t → i ≠ b → m i = mi i))
theorem dX6_feed_0 : decode fX6_feed.2.1 0 = .ok (.aload_n 0, 1) := by decide +kernel
theorem dX6_feed_1 : decode fX6_feed.2.1 1 = .ok (.getfield 25, 3) := by decide +kernel
theorem dX6_feed_4 : decode fX6_feed.2.1 4 = .ok (.getfield 204, 3) := by decide +kernel
theorem dX6_feed_7 : decode fX6_feed.2.1 7 = .ok (.bipush 12, 2) := by decide +kernel
theorem dX6_feed_9 : decode fX6_feed.2.1 9 = .ok (.iadd, 1) := by decide +kernel
theorem dX6_feed_10 : decode fX6_feed.2.1 10 = .ok (.bipush 96, 2) := by decide +kernel
theorem dX6_feed_12 : decode fX6_feed.2.1 12 = .ok (.if_icmp .le 6, 3) := by decide +kernel
theorem dX6_feed_15 : decode fX6_feed.2.1 15 = .ok (.ldc 207, 2) := by decide +kernel
theorem dX6_feed_17 : decode fX6_feed.2.1 17 = .ok (.ireturn, 1) := by decide +kernel
theorem dX6_feed_18 : decode fX6_feed.2.1 18 = .ok (.aload_n 0, 1) := by decide +kernel
theorem dX6_feed_19 : decode fX6_feed.2.1 19 = .ok (.getfield 25, 3) := by decide +kernel
theorem dX6_feed_22 : decode fX6_feed.2.1 22 = .ok (.iload_n 1, 1) := by decide +kernel
theorem dX6_feed_23 : decode fX6_feed.2.1 23 = .ok (.invokevirtual 208, 3) := by decide +kernel
theorem dX6_feed_26 : decode fX6_feed.2.1 26 = .ok (.aload_n 0, 1) := by decide +kernel
theorem dX6_feed_27 : decode fX6_feed.2.1 27 = .ok (.getfield 25, 3) := by decide +kernel
theorem dX6_feed_30 : decode fX6_feed.2.1 30 = .ok (.iload_n 2, 1) := by decide +kernel
theorem dX6_feed_31 : decode fX6_feed.2.1 31 = .ok (.invokevirtual 208, 3) := by decide +kernel
theorem dX6_feed_34 : decode fX6_feed.2.1 34 = .ok (.aload_n 0, 1) := by decide +kernel
theorem dX6_feed_35 : decode fX6_feed.2.1 35 = .ok (.getfield 25, 3) := by decide +kernel
theorem dX6_feed_38 : decode fX6_feed.2.1 38 = .ok (.iload_n 3, 1) := by decide +kernel
theorem dX6_feed_39 : decode fX6_feed.2.1 39 = .ok (.invokevirtual 208, 3) := by decide +kernel
theorem dX6_feed_42 : decode fX6_feed.2.1 42 = .ok (.aload_n 0, 1) := by decide +kernel
theorem dX6_feed_43 : decode fX6_feed.2.1 43 = .ok (.getfield 25, 3) := by decide +kernel
theorem dX6_feed_46 : decode fX6_feed.2.1 46 = .ok (.getfield 204, 3) := by decide +kernel
theorem dX6_feed_49 : decode fX6_feed.2.1 49 = .ok (.ireturn, 1) := by decide +kernel
set_option maxRecDepth 100000 in
set_option maxHeartbeats 4000000 in
theorem ok_X6_feed {X : Xb} {S : Sg} {mi : Mem} {x l : Nat} {a b c : Int32} (hX : AsA S x) (hl : mi (x + 52) 1 = nI l) (hl96 : l ≤ 96) : Ok 1 0 0 fX6_feed X [rf X x, .int a, .int b, .int c] S mi (PF S mi (x + 52) (x + 53) 1 l a b c) := by
  refine Ok.go [some (rf X x), some (.int a), some (.int b), some (.int c)] (by decide) (by simp [Value.category]) (Nat.le_of_ble_eq_true rfl) rfl ?_
  obtain ⟨k_x, ⟨r_x_now, t_now⟩, ⟨r_x_thought, t_thought⟩, ⟨r_x_image, t_image⟩, ⟨r_x_tape, t_tape⟩, ⟨r_x_sheets, k_x_sheets⟩, ⟨r_x_slots, k_x_slots⟩, ⟨r_x_waiting, k_x_waiting⟩, ⟨r_x_diff, k_x_diff⟩, a_sheets, a_slots⟩ := id hX
  have k_tp := t_tape.1
  have e12 : nI l + 12 = nI (l + 12) := by show nI l + nI 12 = _; rw [nI_add]
  refine mw_aload_n dX6_feed_0 rfl ?_
  refine mw_getr dX6_feed_1 fl_X6_25 rfl (by assumption) (by assumption) ?_
  refine mw_geti dX6_feed_4 fl_X6_204 rfl (by assumption) ?_
  refine mw_bipush (v := 12) dX6_feed_7 (by decide) ?_
  rw [hl]
  refine mw_iadd dX6_feed_9 ?_
  rw [e12]
  refine mw_bipush (v := 96) dX6_feed_10 (by decide) ?_
  refine mw_icmp_le (tgt := 18) dX6_feed_12 (by decide) (fun h12 => ?_) (fun h12 => ?_)
  · skip
    have hl12 : l + 12 ≤ 96 := (nI_leI (b := 96) (by omega) (by decide)).mp h12
    refine mw_aload_n dX6_feed_18 rfl ?_
    refine mw_getr dX6_feed_19 fl_X6_25 rfl (by assumption) (by assumption) ?_
    refine mw_iload_n dX6_feed_22 rfl ?_
    refine mw_callV (g := fX3_append) dX6_feed_23 ml_X6_208 mfX3_append (ok_X3_append t_tape hl (by omega)) (k_tp) rfl rfl (Nat.le_of_ble_eq_true rfl) ⟨by decide, by decide⟩ ⟨by decide, by decide⟩ (fun r S2 mi2 hp => ?_)
    obtain ⟨rfl, e1, g1, g2, g3⟩ := hp
    rw [e1]
    have hl2 : mi2 (x + 52) 1 = nI (l + 4) := by rw [g1, upd_at]
    refine mw_aload_n dX6_feed_26 rfl ?_
    refine mw_getr dX6_feed_27 fl_X6_25 rfl (by assumption) (by assumption) ?_
    refine mw_iload_n dX6_feed_30 rfl ?_
    refine mw_callV (g := fX3_append) dX6_feed_31 ml_X6_208 mfX3_append (ok_X3_append t_tape hl2 (by omega)) k_tp rfl rfl (Nat.le_of_ble_eq_true rfl) ⟨by decide, by decide⟩ ⟨by decide, by decide⟩ (fun r S3 mi3 hp => ?_)
    obtain ⟨rfl, e2, g4, g5, g6⟩ := hp
    rw [e2]
    have hl3 : mi3 (x + 52) 1 = nI (l + 4 + 4) := by rw [g4, upd_at]
    refine mw_aload_n dX6_feed_34 rfl ?_
    refine mw_getr dX6_feed_35 fl_X6_25 rfl (by assumption) (by assumption) ?_
    refine mw_iload_n dX6_feed_38 rfl ?_
    refine mw_callV (g := fX3_append) dX6_feed_39 ml_X6_208 mfX3_append (ok_X3_append t_tape hl3 (by omega)) k_tp rfl rfl (Nat.le_of_ble_eq_true rfl) ⟨by decide, by decide⟩ ⟨by decide, by decide⟩ (fun r S4 mi4 hp => ?_)
    obtain ⟨rfl, e3, g7, g8, g9⟩ := hp
    rw [e3]
    have hl4 : mi4 (x + 52) 1 = nI (l + 4 + 4 + 4) := by rw [g7, upd_at]
    refine mw_aload_n dX6_feed_42 rfl ?_
    refine mw_getr dX6_feed_43 fl_X6_25 rfl (by assumption) (by assumption) ?_
    refine mw_geti dX6_feed_46 fl_X6_204 rfl (by assumption) ?_
    rw [hl4]
    exact mw_iret dX6_feed_49 rfl (by decide) (by decide) (⟨rfl, Or.inr ⟨hl12, rfl, by rw [g7, g4, g1, upd_upd, upd_upd], by rw [show x + 53 = x + 52 + 1 from rfl, g8, g5, g2, apR3], fun i h1 h2 => by rw [g9 i h1 h2, g6 i h1 h2, g3 i h1 h2]⟩⟩)
  · skip
    refine mw_ldc dX6_feed_15 cn_X6_207 ?_
    exact mw_iret dX6_feed_17 rfl (by decide) (by decide) (⟨rfl, Or.inl ⟨by rcases Nat.lt_or_ge 96 (l + 12) with g | g; exact g; exact absurd (nI_le (b := 96) g (by decide)) h12, rfl, rfl⟩⟩)
def txP (S : Sg) (x i : Nat) : Nat := (S.2.2 (x + 1 + 4) i).getD 0
def cTextTold (S : Sg) (mi : Mem) (x t : Nat) (v w : Int32) : Int32 := if (0 ≤ v ∧ v ≤ nI t - 1) ∧ (0 ≤ w ∧ w ≤ 1) then (if w = 0 then mi (txP S x v.toNatClampNeg) 0 else mi (txP S x v.toNatClampNeg) 1) else BADi
theorem dX6_textTold_0 : decode fX6_textTold.2.1 0 = .ok (.iload_n 1, 1) := by decide +kernel
theorem dX6_textTold_1 : decode fX6_textTold.2.1 1 = .ok (.iconst 0, 1) := by decide +kernel
theorem dX6_textTold_2 : decode fX6_textTold.2.1 2 = .ok (.aload_n 0, 1) := by decide +kernel
theorem dX6_textTold_3 : decode fX6_textTold.2.1 3 = .ok (.getfield 10, 3) := by decide +kernel
theorem dX6_textTold_6 : decode fX6_textTold.2.1 6 = .ok (.getfield 223, 3) := by decide +kernel
theorem dX6_textTold_9 : decode fX6_textTold.2.1 9 = .ok (.iconst 1, 1) := by decide +kernel
theorem dX6_textTold_10 : decode fX6_textTold.2.1 10 = .ok (.isub, 1) := by decide +kernel
theorem dX6_textTold_11 : decode fX6_textTold.2.1 11 = .ok (.invokestatic 50, 3) := by decide +kernel
theorem dX6_textTold_14 : decode fX6_textTold.2.1 14 = .ok (.ifCond .eq 12, 3) := by decide +kernel
theorem dX6_textTold_17 : decode fX6_textTold.2.1 17 = .ok (.iload_n 2, 1) := by decide +kernel
theorem dX6_textTold_18 : decode fX6_textTold.2.1 18 = .ok (.iconst 0, 1) := by decide +kernel
theorem dX6_textTold_19 : decode fX6_textTold.2.1 19 = .ok (.iconst 1, 1) := by decide +kernel
theorem dX6_textTold_20 : decode fX6_textTold.2.1 20 = .ok (.invokestatic 50, 3) := by decide +kernel
theorem dX6_textTold_23 : decode fX6_textTold.2.1 23 = .ok (.ifCond .ne 6, 3) := by decide +kernel
theorem dX6_textTold_26 : decode fX6_textTold.2.1 26 = .ok (.ldc 58, 2) := by decide +kernel
theorem dX6_textTold_28 : decode fX6_textTold.2.1 28 = .ok (.ireturn, 1) := by decide +kernel
theorem dX6_textTold_29 : decode fX6_textTold.2.1 29 = .ok (.aload_n 0, 1) := by decide +kernel
theorem dX6_textTold_30 : decode fX6_textTold.2.1 30 = .ok (.getfield 10, 3) := by decide +kernel
theorem dX6_textTold_33 : decode fX6_textTold.2.1 33 = .ok (.getfield 226, 3) := by decide +kernel
theorem dX6_textTold_36 : decode fX6_textTold.2.1 36 = .ok (.iload_n 1, 1) := by decide +kernel
theorem dX6_textTold_37 : decode fX6_textTold.2.1 37 = .ok (.aaload, 1) := by decide +kernel
theorem dX6_textTold_38 : decode fX6_textTold.2.1 38 = .ok (.astore_n 3, 1) := by decide +kernel
theorem dX6_textTold_39 : decode fX6_textTold.2.1 39 = .ok (.aload_n 3, 1) := by decide +kernel
theorem dX6_textTold_40 : decode fX6_textTold.2.1 40 = .ok (.ifnonnull 6, 3) := by decide +kernel
theorem dX6_textTold_43 : decode fX6_textTold.2.1 43 = .ok (.ldc 58, 2) := by decide +kernel
theorem dX6_textTold_45 : decode fX6_textTold.2.1 45 = .ok (.ireturn, 1) := by decide +kernel
theorem dX6_textTold_46 : decode fX6_textTold.2.1 46 = .ok (.iload_n 2, 1) := by decide +kernel
theorem dX6_textTold_47 : decode fX6_textTold.2.1 47 = .ok (.ifCond .ne 10, 3) := by decide +kernel
theorem dX6_textTold_50 : decode fX6_textTold.2.1 50 = .ok (.aload_n 3, 1) := by decide +kernel
theorem dX6_textTold_51 : decode fX6_textTold.2.1 51 = .ok (.getfield 230, 3) := by decide +kernel
theorem dX6_textTold_54 : decode fX6_textTold.2.1 54 = .ok (.goto 7, 3) := by decide +kernel
theorem dX6_textTold_57 : decode fX6_textTold.2.1 57 = .ok (.aload_n 3, 1) := by decide +kernel
theorem dX6_textTold_58 : decode fX6_textTold.2.1 58 = .ok (.getfield 235, 3) := by decide +kernel
theorem dX6_textTold_61 : decode fX6_textTold.2.1 61 = .ok (.ireturn, 1) := by decide +kernel
set_option maxRecDepth 100000 in
set_option maxHeartbeats 4000000 in
theorem ok_X6_textTold {X : Xb} {S : Sg} {mi : Mem} {x t : Nat} {v w : Int32} (hX : AsA S x) (ht : mi (x + 1) 13 = nI t) (ht14 : t ≤ 14) (hx : ∀ i, i < t → ∃ p, S.2.2 (x + 1 + 4) i = some p ∧ Kd S p 4 0) : Ok 1 0 0 fX6_textTold X [rf X x, .int v, .int w] S mi (PE S (cTextTold S mi x t v w, mi)) := by
  refine Ok.go [some (rf X x), some (.int v), some (.int w), none] (by decide) (by simp [Value.category]) (Nat.le_of_ble_eq_true rfl) rfl ?_
  obtain ⟨k_x, ⟨r_x_now, t_now⟩, ⟨r_x_thought, t_thought⟩, ⟨r_x_image, t_image⟩, ⟨r_x_tape, t_tape⟩, ⟨r_x_sheets, k_x_sheets⟩, ⟨r_x_slots, k_x_slots⟩, ⟨r_x_waiting, k_x_waiting⟩, ⟨r_x_diff, k_x_diff⟩, a_sheets, a_slots⟩ := id hX
  obtain ⟨k_t, ⟨r_t_home, k_t_home⟩, ⟨r_t_price, k_t_price⟩, ⟨r_t_attics, k_t_attics⟩, ⟨r_t_texts, k_t_texts⟩, ⟨r_t_counting, k_t_counting⟩, ⟨r_t_names, k_t_names⟩, ⟨r_t_pile, k_t_pile⟩, ⟨r_t_views, k_t_views⟩, a_t⟩ := id t_now
  refine mw_iload_n dX6_textTold_0 rfl ?_
  refine mw_iconst (v := 0) dX6_textTold_1 (by decide) ?_
  refine mw_aload_n dX6_textTold_2 rfl ?_
  refine mw_getr dX6_textTold_3 fl_X6_10 rfl (by assumption) (by assumption) ?_
  refine mw_geti dX6_textTold_6 fl_X6_223 rfl (by assumption) ?_
  rw [ht]
  refine mw_iconst (v := 1) dX6_textTold_9 (by decide) ?_
  refine mw_isub dX6_textTold_10 ?_
  refine mw_cSI (g := fX6_within) dX6_textTold_11 ml_X6_50 mfX6_within (ok_X6_within) rfl rfl (Nat.le_of_ble_eq_true rfl) ⟨by decide, by decide⟩ ⟨by decide, by decide⟩ ?_
  refine mw_if_eqB (tgt := 26) dX6_textTold_14 (by decide) (fun h14 => ?_) (fun h14 => ?_)
  · skip
    refine mw_ldc dX6_textTold_26 cn_X6_58 ?_
    exact mw_iret dX6_textTold_28 rfl (by decide) (by decide) (by rw [cTextTold, if_neg (by grind)]; exact ⟨rfl, rfl, rfl⟩)
  · skip
    refine mw_iload_n dX6_textTold_17 rfl ?_
    refine mw_iconst (v := 0) dX6_textTold_18 (by decide) ?_
    refine mw_iconst (v := 1) dX6_textTold_19 (by decide) ?_
    refine mw_cSI (g := fX6_within) dX6_textTold_20 ml_X6_50 mfX6_within (ok_X6_within) rfl rfl (Nat.le_of_ble_eq_true rfl) ⟨by decide, by decide⟩ ⟨by decide, by decide⟩ ?_
    refine mw_if_neB (tgt := 29) dX6_textTold_23 (by decide) (fun h23 => ?_) (fun h23 => ?_)
    · skip
      obtain ⟨a, ha, rfl⟩ := inN h14 (by omega)
      obtain ⟨p, hp, kp⟩ := hx a ha
      have ev : (nI a).toNatClampNeg = a := nI_clamp (by omega)
      have ep : txP S x a = p := by rw [txP, hp]; rfl
      refine mw_aload_n dX6_textTold_29 rfl ?_
      refine mw_getr dX6_textTold_30 fl_X6_10 rfl (by assumption) (by assumption) ?_
      refine mw_getr dX6_textTold_33 fl_X6_226 rfl (by assumption) (by assumption) ?_
      refine mw_iload_n dX6_textTold_36 rfl ?_
      refine mw_aldK (k := a) dX6_textTold_37 (by assumption) (by decide) (rfl) (by omega) (by decide) (hp) ?_
      refine mw_astN 3 dX6_textTold_38 rfl (by decide) ?_
      refine mw_aload_n dX6_textTold_39 rfl ?_
      refine mw_ifnonnull (tgt := 46) dX6_textTold_40 (by decide) ?_
      skip
      skip
      refine mw_iload_n dX6_textTold_46 rfl ?_
      refine mw_if_ne (tgt := 57) dX6_textTold_47 (by decide) (fun h47 => ?_) (fun h47 => ?_)
      · skip
        refine mw_aload_n dX6_textTold_57 rfl ?_
        refine mw_geti dX6_textTold_58 fl_X6_235 rfl (kp) ?_
        exact mw_iret dX6_textTold_61 rfl (by decide) (by decide) (by first | (rw [cTextTold, if_pos ⟨h14, h23⟩, ev, ep, if_pos h47]; exact ⟨rfl, rfl, rfl⟩) | (rw [cTextTold, if_pos ⟨h14, h23⟩, ev, ep, if_neg h47]; exact ⟨rfl, rfl, rfl⟩) | fail "leaf")
      · skip
        refine mw_aload_n dX6_textTold_50 rfl ?_
        refine mw_geti dX6_textTold_51 fl_X6_230 rfl (kp) ?_
        refine mw_goto (tgt := 61) dX6_textTold_54 (by decide) ?_
        exact mw_iret dX6_textTold_61 rfl (by decide) (by decide) (by first | (rw [cTextTold, if_pos ⟨h14, h23⟩, ev, ep, if_pos h47]; exact ⟨rfl, rfl, rfl⟩) | (rw [cTextTold, if_pos ⟨h14, h23⟩, ev, ep, if_neg h47]; exact ⟨rfl, rfl, rfl⟩) | fail "leaf")
    · skip
      refine mw_ldc dX6_textTold_26 cn_X6_58 ?_
      exact mw_iret dX6_textTold_28 rfl (by decide) (by decide) (by rw [cTextTold, if_neg (by grind)]; exact ⟨rfl, rfl, rfl⟩)
