/-! Town: the fewest attics; a town taken after another -/
def viewSet (vw : Nat → Int32) (n : Nat) (j : Int32) : Int32 := fld (fun s i => if j >>> (nI i &&& 31) &&& 1 = 1 then s ||| vw i else s) 0 n
def covC (vw : Nat → Int32) (n : Nat) (stars : Int32) : Nat → Int32 × Int32
  | 0 => (-1000000005, 9)
  | s + 1 => if jBits (nI s) < (covC vw n stars s).2 ∧ stars &&& (viewSet vw n (nI s) ^^^ (-1)) = 0 then (nI s, jBits (nI s)) else covC vw n stars s
theorem shl_n : ∀ n, n ≤ 8 → (1 : Int32) <<< (nI n &&& 31) = nI (2 ^ n) := by decide
theorem viewSet_congr {vw vw' : Nat → Int32} {n : Nat} {j : Int32} (h : ∀ i, i < n → vw i = vw' i) : viewSet vw n j = viewSet vw' n j := fld_congr n (fun s k hk => by rw [h k hk])
theorem dX5_fewestFor_0 : decode fX5_fewestFor.2.1 0 = .ok (.iconst 0, 1) := by decide +kernel
theorem dX5_fewestFor_1 : decode fX5_fewestFor.2.1 1 = .ok (.istore_n 2, 1) := by decide +kernel
theorem dX5_fewestFor_2 : decode fX5_fewestFor.2.1 2 = .ok (.iload_n 2, 1) := by decide +kernel
theorem dX5_fewestFor_3 : decode fX5_fewestFor.2.1 3 = .ok (.aload_n 0, 1) := by decide +kernel
theorem dX5_fewestFor_4 : decode fX5_fewestFor.2.1 4 = .ok (.getfield 59, 3) := by decide +kernel
theorem dX5_fewestFor_7 : decode fX5_fewestFor.2.1 7 = .ok (.if_icmp .ge 25, 3) := by decide +kernel
theorem dX5_fewestFor_10 : decode fX5_fewestFor.2.1 10 = .ok (.aload_n 0, 1) := by decide +kernel
theorem dX5_fewestFor_11 : decode fX5_fewestFor.2.1 11 = .ok (.getfield 49, 3) := by decide +kernel
theorem dX5_fewestFor_14 : decode fX5_fewestFor.2.1 14 = .ok (.iload_n 2, 1) := by decide +kernel
theorem dX5_fewestFor_15 : decode fX5_fewestFor.2.1 15 = .ok (.aload_n 0, 1) := by decide +kernel
theorem dX5_fewestFor_16 : decode fX5_fewestFor.2.1 16 = .ok (.aload_n 0, 1) := by decide +kernel
theorem dX5_fewestFor_17 : decode fX5_fewestFor.2.1 17 = .ok (.getfield 20, 3) := by decide +kernel
theorem dX5_fewestFor_20 : decode fX5_fewestFor.2.1 20 = .ok (.iload_n 2, 1) := by decide +kernel
theorem dX5_fewestFor_21 : decode fX5_fewestFor.2.1 21 = .ok (.aaload, 1) := by decide +kernel
theorem dX5_fewestFor_22 : decode fX5_fewestFor.2.1 22 = .ok (.invokevirtual 142, 3) := by decide +kernel
theorem dX5_fewestFor_25 : decode fX5_fewestFor.2.1 25 = .ok (.iastore, 1) := by decide +kernel
theorem dX5_fewestFor_26 : decode fX5_fewestFor.2.1 26 = .ok (.iinc 2 1, 3) := by decide +kernel
theorem dX5_fewestFor_29 : decode fX5_fewestFor.2.1 29 = .ok (.goto (-27), 3) := by decide +kernel
theorem dX5_fewestFor_32 : decode fX5_fewestFor.2.1 32 = .ok (.ldc 145, 2) := by decide +kernel
theorem dX5_fewestFor_34 : decode fX5_fewestFor.2.1 34 = .ok (.istore_n 2, 1) := by decide +kernel
theorem dX5_fewestFor_35 : decode fX5_fewestFor.2.1 35 = .ok (.bipush 9, 2) := by decide +kernel
theorem dX5_fewestFor_37 : decode fX5_fewestFor.2.1 37 = .ok (.istore_n 3, 1) := by decide +kernel
theorem dX5_fewestFor_38 : decode fX5_fewestFor.2.1 38 = .ok (.iconst 0, 1) := by decide +kernel
theorem dX5_fewestFor_39 : decode fX5_fewestFor.2.1 39 = .ok (.istore 4, 2) := by decide +kernel
theorem dX5_fewestFor_41 : decode fX5_fewestFor.2.1 41 = .ok (.iload 4, 2) := by decide +kernel
theorem dX5_fewestFor_43 : decode fX5_fewestFor.2.1 43 = .ok (.iconst 1, 1) := by decide +kernel
theorem dX5_fewestFor_44 : decode fX5_fewestFor.2.1 44 = .ok (.aload_n 0, 1) := by decide +kernel
theorem dX5_fewestFor_45 : decode fX5_fewestFor.2.1 45 = .ok (.getfield 59, 3) := by decide +kernel
theorem dX5_fewestFor_48 : decode fX5_fewestFor.2.1 48 = .ok (.ishl, 1) := by decide +kernel
theorem dX5_fewestFor_49 : decode fX5_fewestFor.2.1 49 = .ok (.if_icmp .ge 41, 3) := by decide +kernel
theorem dX5_fewestFor_52 : decode fX5_fewestFor.2.1 52 = .ok (.iload 4, 2) := by decide +kernel
theorem dX5_fewestFor_54 : decode fX5_fewestFor.2.1 54 = .ok (.invokestatic 146, 3) := by decide +kernel
theorem dX5_fewestFor_57 : decode fX5_fewestFor.2.1 57 = .ok (.istore 5, 2) := by decide +kernel
theorem dX5_fewestFor_59 : decode fX5_fewestFor.2.1 59 = .ok (.iload 5, 2) := by decide +kernel
theorem dX5_fewestFor_61 : decode fX5_fewestFor.2.1 61 = .ok (.iload_n 3, 1) := by decide +kernel
theorem dX5_fewestFor_62 : decode fX5_fewestFor.2.1 62 = .ok (.if_icmp .ge 22, 3) := by decide +kernel
theorem dX5_fewestFor_65 : decode fX5_fewestFor.2.1 65 = .ok (.iload_n 1, 1) := by decide +kernel
theorem dX5_fewestFor_66 : decode fX5_fewestFor.2.1 66 = .ok (.aload_n 0, 1) := by decide +kernel
theorem dX5_fewestFor_67 : decode fX5_fewestFor.2.1 67 = .ok (.iload 4, 2) := by decide +kernel
theorem dX5_fewestFor_69 : decode fX5_fewestFor.2.1 69 = .ok (.invokevirtual 151, 3) := by decide +kernel
theorem dX5_fewestFor_72 : decode fX5_fewestFor.2.1 72 = .ok (.iconst (-1), 1) := by decide +kernel
theorem dX5_fewestFor_73 : decode fX5_fewestFor.2.1 73 = .ok (.ixor, 1) := by decide +kernel
theorem dX5_fewestFor_74 : decode fX5_fewestFor.2.1 74 = .ok (.iand, 1) := by decide +kernel
theorem dX5_fewestFor_75 : decode fX5_fewestFor.2.1 75 = .ok (.ifCond .ne 9, 3) := by decide +kernel
theorem dX5_fewestFor_78 : decode fX5_fewestFor.2.1 78 = .ok (.iload 5, 2) := by decide +kernel
theorem dX5_fewestFor_80 : decode fX5_fewestFor.2.1 80 = .ok (.istore_n 3, 1) := by decide +kernel
theorem dX5_fewestFor_81 : decode fX5_fewestFor.2.1 81 = .ok (.iload 4, 2) := by decide +kernel
theorem dX5_fewestFor_83 : decode fX5_fewestFor.2.1 83 = .ok (.istore_n 2, 1) := by decide +kernel
theorem dX5_fewestFor_84 : decode fX5_fewestFor.2.1 84 = .ok (.iinc 4 1, 3) := by decide +kernel
theorem dX5_fewestFor_87 : decode fX5_fewestFor.2.1 87 = .ok (.goto (-46), 3) := by decide +kernel
theorem dX5_fewestFor_90 : decode fX5_fewestFor.2.1 90 = .ok (.iload_n 2, 1) := by decide +kernel
theorem dX5_fewestFor_91 : decode fX5_fewestFor.2.1 91 = .ok (.ireturn, 1) := by decide +kernel
set_option maxRecDepth 100000 in
set_option maxHeartbeats 4000000 in
theorem ok_X5_fewestFor {X : Xb} {S : Sg} {mi : Mem} {t n : Nat} {stars : Int32} (hT : TwA S t) (hn : mi t 3 = nI n) (hn8 : n ≤ 8) : Ok 3 0 0 fX5_fewestFor X [rf X t, .int stars] S mi (fun r S' m => r = some (.int (covC (fun i => cSeesA mi t i) n stars (2 ^ n)).1) ∧ S' = S ∧ ∀ a, a ≠ t + 8 → m a = mi a) := by
  refine Ok.go [some (rf X t), some (.int stars), none, none, none, none] (by decide) (by simp [Value.category]) (Nat.le_of_ble_eq_true rfl) rfl ?_
  obtain ⟨k_t, ⟨r_t_home, k_t_home⟩, ⟨r_t_price, k_t_price⟩, ⟨r_t_attics, k_t_attics⟩, ⟨r_t_texts, k_t_texts⟩, ⟨r_t_counting, k_t_counting⟩, ⟨r_t_names, k_t_names⟩, ⟨r_t_pile, k_t_pile⟩, ⟨r_t_views, k_t_views⟩, a_t⟩ := id hT
  have h2n : 2 ^ n ≤ 256 := by have := Nat.pow_le_pow_right (show 0 < 2 by decide) hn8; omega
  have p2 : ∀ m, (∀ a, a ≠ t + 8 → m a = mi a) → (∀ i, i < n → m (t + 8) i = cSeesA mi t i) → MW X fX5_fewestFor (rmOf 3 0 0) 0 0 41 [some (rf X t), some (.int stars), some (.int (-1000000005)), some (.int 9), some (.int (nI 0)), none] [] S m (mQ X 0 0 (fun r S' m => r = some (.int (covC (fun i => cSeesA mi t i) n stars (2 ^ n)).1) ∧ S' = S ∧ ∀ a, a ≠ t + 8 → m a = mi a)) := by
    intro m hm hv
    have ec : m t 3 = nI n := by rw [hm t (by omega)]; exact hn
    have lp := mw_dn (P := fun k => MW X fX5_fewestFor (rmOf 3 0 0) 0 0 41 [some (rf X t), some (.int stars), some (.int (covC (fun i => cSeesA mi t i) n stars k).1), some (.int (covC (fun i => cSeesA mi t i) n stars k).2), some (.int (nI k)), none] [] S m (mQ X 0 0 (fun r S' m => r = some (.int (covC (fun i => cSeesA mi t i) n stars (2 ^ n)).1) ∧ S' = S ∧ ∀ a, a ≠ t + 8 → m a = mi a))) (2^n) (by
      refine mw_iload dX5_fewestFor_41 rfl ?_
      refine mw_iconst (v := 1) dX5_fewestFor_43 (by decide) ?_
      refine mw_aload_n dX5_fewestFor_44 rfl ?_
      refine mw_geti dX5_fewestFor_45 fl_X5_59 rfl (by assumption) ?_
      rw [ec]
      refine mw_ishl dX5_fewestFor_48 ?_
      rw [shl_n n hn8]
      refine mw_icmp_ge (tgt := 90) dX5_fewestFor_49 (by decide) (fun h49 => ?_) (fun h49 => ?_)
      · skip
        refine mw_iload_n dX5_fewestFor_90 rfl ?_
        exact mw_iret dX5_fewestFor_91 rfl (by decide) (by decide) (⟨rfl, rfl, hm⟩)
      · skip
        exact absurd (Int32.le_refl _) h49) (fun k hk ih => by
      refine mw_iload dX5_fewestFor_41 rfl ?_
      refine mw_iconst (v := 1) dX5_fewestFor_43 (by decide) ?_
      refine mw_aload_n dX5_fewestFor_44 rfl ?_
      refine mw_geti dX5_fewestFor_45 fl_X5_59 rfl (by assumption) ?_
      rw [ec]
      refine mw_ishl dX5_fewestFor_48 ?_
      rw [shl_n n hn8]
      refine mw_icmp_ge (tgt := 90) dX5_fewestFor_49 (by decide) (fun h49 => ?_) (fun h49 => ?_)
      · skip
        exact absurd h49 (nI_ge hk (by omega))
      · skip
        refine mw_iload dX5_fewestFor_52 rfl ?_
        refine mw_cSI (g := fJ6_bitCount_0f7a4) dX5_fewestFor_54 ml_X5_146 mfJ6_bitCount_0f7a4 (ok_J6_bitCount_0f7a4) rfl rfl (Nat.le_of_ble_eq_true rfl) ⟨by decide, by decide⟩ ⟨by decide, by decide⟩ ?_
        refine mw_istore dX5_fewestFor_57 (by decide) ?_
        refine mw_iload dX5_fewestFor_59 rfl ?_
        refine mw_iload_n dX5_fewestFor_61 rfl ?_
        refine mw_icmp_ge (tgt := 84) dX5_fewestFor_62 (by decide) (fun h62 => ?_) (fun h62 => ?_)
        · skip
          refine mw_iincK (k := k) dX5_fewestFor_84 rfl rfl (by decide) ?_
          refine mw_goto (tgt := 41) dX5_fewestFor_87 (by decide) ?_
          refine MW.sub ?_ ih
          simp only [covC]
          first
            | (rw [if_neg (fun q => absurd q.1 (Int32.not_lt.mpr h62))]; simp [lsub])
            | (rw [if_neg (fun q => h75 q.2)]; simp [lsub])
            | (rw [if_pos ⟨Int32.not_le.mp h62, h75⟩]; simp [lsub])
        · skip
          refine mw_iload_n dX5_fewestFor_65 rfl ?_
          refine mw_aload_n dX5_fewestFor_66 rfl ?_
          refine mw_iload dX5_fewestFor_67 rfl ?_
          refine mw_cVI (g := fX5_viewOf) dX5_fewestFor_69 ml_X5_151 mfX5_viewOf (ok_X5_viewOf hT ec hn8) (by assumption) rfl rfl (Nat.le_of_ble_eq_true rfl) ⟨by decide, by decide⟩ ⟨by decide, by decide⟩ ?_
          rw [show fld (fun s i => if nI k >>> (nI i &&& 31) &&& 1 = 1 then s ||| m (t + 8) i else s) 0 n = viewSet (fun i => cSeesA mi t i) n (nI k) from viewSet_congr hv]
          refine mw_iconst (v := (-1)) dX5_fewestFor_72 (by decide) ?_
          refine mw_ixor dX5_fewestFor_73 ?_
          refine mw_iand dX5_fewestFor_74 ?_
          refine mw_if_ne (tgt := 84) dX5_fewestFor_75 (by decide) (fun h75 => ?_) (fun h75 => ?_)
          · skip
            refine mw_iincK (k := k) dX5_fewestFor_84 rfl rfl (by decide) ?_
            refine mw_goto (tgt := 41) dX5_fewestFor_87 (by decide) ?_
            refine MW.sub ?_ ih
            simp only [covC]
            first
              | (rw [if_neg (fun q => absurd q.1 (Int32.not_lt.mpr h62))]; simp [lsub])
              | (rw [if_neg (fun q => h75 q.2)]; simp [lsub])
              | (rw [if_pos ⟨Int32.not_le.mp h62, h75⟩]; simp [lsub])
          · skip
            refine mw_iload dX5_fewestFor_78 rfl ?_
            refine mw_istN 3 dX5_fewestFor_80 rfl (by decide) ?_
            refine mw_iload dX5_fewestFor_81 rfl ?_
            refine mw_istN 2 dX5_fewestFor_83 rfl (by decide) ?_
            refine mw_iincK (k := k) dX5_fewestFor_84 rfl rfl (by decide) ?_
            refine mw_goto (tgt := 41) dX5_fewestFor_87 (by decide) ?_
            refine MW.sub ?_ ih
            simp only [covC]
            first
              | (rw [if_neg (fun q => absurd q.1 (Int32.not_lt.mpr h62))]; simp [lsub])
              | (rw [if_neg (fun q => h75 q.2)]; simp [lsub])
              | (rw [if_pos ⟨Int32.not_le.mp h62, h75⟩]; simp [lsub]))
    exact MW.sub (by simp [lsub, covC]) lp
  have lp := mw_dn (P := fun k => ∀ m, (∀ a, a ≠ t + 8 → m a = mi a) → (∀ i, i < k → m (t + 8) i = cSeesA mi t i) → MW X fX5_fewestFor (rmOf 3 0 0) 0 0 2 [some (rf X t), some (.int stars), some (.int (nI k)), none, none, none] [] S m (mQ X 0 0 (fun r S' m => r = some (.int (covC (fun i => cSeesA mi t i) n stars (2 ^ n)).1) ∧ S' = S ∧ ∀ a, a ≠ t + 8 → m a = mi a))) n (by
    intro m hm hv
    have ec : m t 3 = nI n := by rw [hm t (by omega)]; exact hn
    refine mw_iload_n dX5_fewestFor_2 rfl ?_
    refine mw_aload_n dX5_fewestFor_3 rfl ?_
    refine mw_geti dX5_fewestFor_4 fl_X5_59 rfl (by assumption) ?_
    rw [ec]
    refine mw_icmp_ge (tgt := 32) dX5_fewestFor_7 (by decide) (fun h7 => ?_) (fun h7 => ?_)
    · skip
      refine mw_ldc dX5_fewestFor_32 cn_X5_145 ?_
      refine mw_istN 2 dX5_fewestFor_34 rfl (by decide) ?_
      refine mw_bipush (v := 9) dX5_fewestFor_35 (by decide) ?_
      refine mw_istN 3 dX5_fewestFor_37 rfl (by decide) ?_
      refine mw_iconst (v := 0) dX5_fewestFor_38 (by decide) ?_
      refine mw_istore dX5_fewestFor_39 (by decide) ?_
      exact MW.sub (by simp [lsub, nI_0]) (p2 m hm hv)
    · skip
      exact absurd (Int32.le_refl _) h7) (fun k hk ih => by
    intro m hm hv
    have ec : m t 3 = nI n := by rw [hm t (by omega)]; exact hn
    have hka := (a_t k (by omega)).2
    have es : cSees (m (t + 1)) (m t 10) (m t 4) (m (t + 9 + k) 0) (m (t + 9 + k) 1) (m (t + 9 + k) 2) = cSeesA mi t k := by rw [hm (t + 1) (by omega), hm t (by omega), hm (t + 9 + k) (by omega)]
    refine mw_iload_n dX5_fewestFor_2 rfl ?_
    refine mw_aload_n dX5_fewestFor_3 rfl ?_
    refine mw_geti dX5_fewestFor_4 fl_X5_59 rfl (by assumption) ?_
    rw [ec]
    refine mw_icmp_ge (tgt := 32) dX5_fewestFor_7 (by decide) (fun h7 => ?_) (fun h7 => ?_)
    · skip
      exact absurd h7 (nI_ge hk (by omega))
    · skip
      refine mw_aload_n dX5_fewestFor_10 rfl ?_
      refine mw_getr dX5_fewestFor_11 fl_X5_49 rfl (by assumption) (by assumption) ?_
      refine mw_iload_n dX5_fewestFor_14 rfl ?_
      refine mw_aload_n dX5_fewestFor_15 rfl ?_
      refine mw_aload_n dX5_fewestFor_16 rfl ?_
      refine mw_getr dX5_fewestFor_17 fl_X5_20 rfl (by assumption) (by assumption) ?_
      refine mw_iload_n dX5_fewestFor_20 rfl ?_
      refine mw_aldK (k := k) dX5_fewestFor_21 (by assumption) (by decide) (rfl) (by omega) (by decide) ((a_t k (by omega)).1) ?_
      refine mw_cVI (g := fX5_seenBy) dX5_fewestFor_22 ml_X5_142 mfX5_seenBy (ok_X5_seenBy hT hka) (by assumption) rfl rfl (Nat.le_of_ble_eq_true rfl) ⟨by decide, by decide⟩ ⟨by decide, by decide⟩ ?_
      rw [es]
      refine mw_iastK (k := k) dX5_fewestFor_25 (by assumption) (rfl) (by omega) (by decide) ?_
      refine mw_iincK (k := k) dX5_fewestFor_26 rfl rfl (by decide) ?_
      refine mw_goto (tgt := 2) dX5_fewestFor_29 (by decide) ?_
      refine MW.sub (by simp [lsub]) (ih _ (fun a ha => by rw [m_up_ne ha]; exact hm a ha) (fun i hi => ?_))
      by_cases c : i = k
      · subst c; rw [m_up_at]
      · rw [m_up_of c]; exact hv i (by omega))
  refine mw_iconst (v := 0) dX5_fewestFor_0 (by decide) ?_
  refine mw_istN 2 dX5_fewestFor_1 rfl (by decide) ?_
  exact MW.sub (by simp [lsub, nI_0]) (lp mi (fun _ _ => rfl) (fun i hi => absurd hi (Nat.not_lt_zero i)))
/-- the texts of town t become those of town u -/
def cpR (mr : Rfm) (t u k : Nat) : Rfm := fun a j => if a = t + 4 ∧ j < k then mr (u + 4) j else mr a j
abbrev cpS (S : Sg) (t u k : Nat) : Sg := (S.1, S.2.1, cpR S.2.2 t u k)
theorem TwA.cp {S : Sg} {w t u k : Nat} (h : TwA S w) (h4 : Kd S (t + 4) 14 14) : TwA (cpS S t u k) w := by
  have n0 : w ≠ t + 4 := Kd_ne h.1 h4 (by decide)
  have n3 : w + 3 ≠ t + 4 := Kd_ne h.2.2.2.1.2 h4 (by decide)
  have e0 : ∀ j, cpR S.2.2 t u k w j = S.2.2 w j := fun j => by simp [cpR, n0]
  have e3 : ∀ j, cpR S.2.2 t u k (w + 3) j = S.2.2 (w + 3) j := fun j => by simp only [cpR, n3, false_and, if_false]
  obtain ⟨k0, ⟨a1, b1⟩, ⟨a2, b2⟩, ⟨a3, b3⟩, ⟨a4, b4⟩, ⟨a5, b5⟩, ⟨a6, b6⟩, ⟨a7, b7⟩, ⟨a8, b8⟩, a9⟩ := h
  exact ⟨k0, ⟨(e0 _).trans a1, b1⟩, ⟨(e0 _).trans a2, b2⟩, ⟨(e0 _).trans a3, b3⟩, ⟨(e0 _).trans a4, b4⟩, ⟨(e0 _).trans a5, b5⟩, ⟨(e0 _).trans a6, b6⟩, ⟨(e0 _).trans a7, b7⟩, ⟨(e0 _).trans a8, b8⟩, fun i hi => ⟨(e3 i).trans (a9 i hi).1, (a9 i hi).2⟩⟩
