/-! constructors -/
def alS (S : Sg) (t k c z : Nat) : Sg := ((nwS S c z).1, (nwS S c z).2.1, r_up (nwS S c z).2.2 t k (some S.1))
theorem al_1 (S : Sg) (t k c z : Nat) : (alS S t k c z).1 = S.1 + 1 := rfl
theorem al_kd {S : Sg} {i c z t k c' z' : Nat} (h : Kd S i c z) : Kd (alS S t k c' z') i c z := Kd_nw h
theorem al_kd0 (S : Sg) (t k c z : Nat) : Kd (alS S t k c z) S.1 c z := Kd_nw0 S c z
theorem al_r0 (S : Sg) (t k c z : Nat) : (alS S t k c z).2.2 t k = some S.1 := by show r_up _ t k (some S.1) t k = _; simp [r_up]
theorem al_r {S : Sg} {t k c z a j : Nat} (h : a < S.1) (h2 : ¬ (a = t ∧ j = k)) : (alS S t k c z).2.2 a j = S.2.2 a j := by
  show (if a = t ∧ j = k then _ else (nwS S c z).2.2 a j) = _
  rw [if_neg h2]; exact nw_r h j
/-- only new cells, and the refs of cell q -/
def Ext (q : Nat) (S S' : Sg) : Prop := S.1 ≤ S'.1 ∧ (∀ a, a < S.1 → S'.2.1 a = S.2.1 a) ∧ ∀ a, a < S.1 → a ≠ q → S'.2.2 a = S.2.2 a
theorem Ext.rf (q : Nat) (S : Sg) : Ext q S S := ⟨Nat.le_refl _, fun _ _ => rfl, fun _ _ _ => rfl⟩
theorem Ext.tr {q : Nat} {A B C : Sg} (h : Ext q A B) (k : Ext q B C) : Ext q A C := ⟨Nat.le_trans h.1 k.1, fun a ha => (k.2.1 a (Nat.lt_of_lt_of_le ha h.1)).trans (h.2.1 a ha), fun a ha hq => (k.2.2 a (Nat.lt_of_lt_of_le ha h.1) hq).trans (h.2.2 a ha hq)⟩
theorem Ext.kd {q i c z : Nat} {A B : Sg} (h : Ext q A B) (k : Kd A i c z) : Kd B i c z := ⟨Nat.lt_of_lt_of_le k.1 h.1, by rw [h.2.1 i k.1]; exact k.2⟩
theorem Ext.al (S : Sg) (q k c z : Nat) : Ext q S (alS S q k c z) := ⟨Nat.le_succ _, fun a ha => if_neg (Nat.ne_of_lt ha), fun a ha hq => by funext j; exact al_r ha (fun g => hq g.1)⟩
theorem Ext.nw (S : Sg) (q c z : Nat) : Ext q S (nwS S c z) := ⟨Nat.le_succ _, fun a ha => if_neg (Nat.ne_of_lt ha), fun a ha _ => by funext j; exact nw_r ha j⟩
theorem Ext.up (S : Sg) (q k : Nat) (v : Option Nat) : Ext q S (S.1, S.2.1, r_up S.2.2 q k v) := ⟨Nat.le_refl _, fun _ _ => rfl, fun a _ hq => r_up_ne hq⟩
theorem dX0_init_0 : decode fX0_init.2.1 0 = .ok (.aload_n 0, 1) := by decide +kernel
theorem dX0_init_1 : decode fX0_init.2.1 1 = .ok (.invokespecial 3, 3) := by decide +kernel
theorem dX0_init_4 : decode fX0_init.2.1 4 = .ok (.return_, 1) := by decide +kernel
set_option maxRecDepth 100000 in
set_option maxHeartbeats 4000000 in
theorem ok_X0_init {X : Xb} {S : Sg} {mi : Mem} {a : Nat} : OkV 1 fX0_init X [rf X a] S mi mi := by
  refine Ok.go [some (rf X a)] (by decide) (by simp [Value.category]) (Nat.le_of_ble_eq_true rfl) rfl ?_
  refine mw_aload_n dX0_init_0 rfl ?_
  refine mw_objI dX0_init_1 ml_X0_3 (Nat.le_of_ble_eq_true rfl) ⟨by decide, by decide⟩ ?_
  exact mw_vret dX0_init_4 rfl (by decide) (by decide) (⟨rfl, rfl, rfl⟩)
theorem dX1_init_0 : decode fX1_init.2.1 0 = .ok (.aload_n 0, 1) := by decide +kernel
theorem dX1_init_1 : decode fX1_init.2.1 1 = .ok (.invokespecial 3, 3) := by decide +kernel
theorem dX1_init_4 : decode fX1_init.2.1 4 = .ok (.aload_n 0, 1) := by decide +kernel
theorem dX1_init_5 : decode fX1_init.2.1 5 = .ok (.bipush 24, 2) := by decide +kernel
theorem dX1_init_7 : decode fX1_init.2.1 7 = .ok (.newarray .int, 2) := by decide +kernel
theorem dX1_init_9 : decode fX1_init.2.1 9 = .ok (.putfield 9, 3) := by decide +kernel
theorem dX1_init_12 : decode fX1_init.2.1 12 = .ok (.aload_n 0, 1) := by decide +kernel
theorem dX1_init_13 : decode fX1_init.2.1 13 = .ok (.iconst (-1), 1) := by decide +kernel
theorem dX1_init_14 : decode fX1_init.2.1 14 = .ok (.putfield 15, 3) := by decide +kernel
theorem dX1_init_17 : decode fX1_init.2.1 17 = .ok (.return_, 1) := by decide +kernel
set_option maxRecDepth 100000 in
set_option maxHeartbeats 4000000 in
theorem ok_X1_init {X : Xb} {S : Sg} {mi : Mem} {q : Nat} (hq : Kd S q 1 0) : Ok 1 1 24 fX1_init X [rf X q] S mi (fun r S' m => r = none ∧ S' = alS S q 0 8 24 ∧ m = m_up (nwM S mi) q 1 (-1)) := by
  refine Ok.go [some (rf X q)] (by decide) (by simp [Value.category]) (Nat.le_of_ble_eq_true rfl) rfl ?_
  have kq : Kd (nwS S 8 24) q 1 0 := Kd_nw hq
  have kq2 : Kd (alS S q 0 8 24) q 1 0 := Kd_nw hq
  refine mw_aload_n dX1_init_0 rfl ?_
  refine mw_objI dX1_init_1 ml_X1_3 (Nat.le_of_ble_eq_true rfl) ⟨by decide, by decide⟩ ?_
  refine mw_aload_n dX1_init_4 rfl ?_
  refine mw_bipush (v := 24) dX1_init_5 (by decide) ?_
  refine mw_newi (N := 24) dX1_init_7 arr_int (by decide) (by decide) (by decide) (by decide) (by decide) ?_
  refine mw_putFr (a := S.1) dX1_init_9 fl_X1_9 ft_1_0 rfl (fun q h => by cases h; rfl) rfl rfl rfl kq ?_
  refine mw_aload_n dX1_init_12 rfl ?_
  refine mw_iconst (v := (-1)) dX1_init_13 (by decide) ?_
  refine mw_puti dX1_init_14 fl_X1_15 ft_1_1 rfl (rfl) rfl (kq2) ?_
  exact mw_vret dX1_init_17 rfl (by decide) (by decide) (⟨rfl, rfl, rfl⟩)
theorem dX3_init_0 : decode fX3_init.2.1 0 = .ok (.aload_n 0, 1) := by decide +kernel
theorem dX3_init_1 : decode fX3_init.2.1 1 = .ok (.invokespecial 3, 3) := by decide +kernel
theorem dX3_init_4 : decode fX3_init.2.1 4 = .ok (.aload_n 0, 1) := by decide +kernel
theorem dX3_init_5 : decode fX3_init.2.1 5 = .ok (.bipush 96, 2) := by decide +kernel
theorem dX3_init_7 : decode fX3_init.2.1 7 = .ok (.newarray .int, 2) := by decide +kernel
theorem dX3_init_9 : decode fX3_init.2.1 9 = .ok (.putfield 9, 3) := by decide +kernel
theorem dX3_init_12 : decode fX3_init.2.1 12 = .ok (.aload_n 0, 1) := by decide +kernel
theorem dX3_init_13 : decode fX3_init.2.1 13 = .ok (.bipush 96, 2) := by decide +kernel
theorem dX3_init_15 : decode fX3_init.2.1 15 = .ok (.newarray .int, 2) := by decide +kernel
theorem dX3_init_17 : decode fX3_init.2.1 17 = .ok (.putfield 15, 3) := by decide +kernel
theorem dX3_init_20 : decode fX3_init.2.1 20 = .ok (.return_, 1) := by decide +kernel
set_option maxRecDepth 100000 in
set_option maxHeartbeats 4000000 in
theorem ok_X3_init {X : Xb} {S : Sg} {mi : Mem} {q : Nat} (hq : Kd S q 3 0) : Ok 1 2 192 fX3_init X [rf X q] S mi (fun r S' m => r = none ∧ S' = alS (alS S q 0 8 96) q 9 8 96 ∧ m = nwM (alS S q 0 8 96) (nwM S mi)) := by
  refine Ok.go [some (rf X q)] (by decide) (by simp [Value.category]) (Nat.le_of_ble_eq_true rfl) rfl ?_
  have kq : Kd (nwS S 8 96) q 3 0 := Kd_nw hq
  have kq2 : Kd (nwS (alS S q 0 8 96) 8 96) q 3 0 := Kd_nw (Kd_nw hq)
  refine mw_aload_n dX3_init_0 rfl ?_
  refine mw_objI dX3_init_1 ml_X3_3 (Nat.le_of_ble_eq_true rfl) ⟨by decide, by decide⟩ ?_
  refine mw_aload_n dX3_init_4 rfl ?_
  refine mw_bipush (v := 96) dX3_init_5 (by decide) ?_
  refine mw_newi (N := 96) dX3_init_7 arr_int (by decide) (by decide) (by decide) (by decide) (by decide) ?_
  refine mw_putFr (a := S.1) dX3_init_9 fl_X3_9 ft_3_0 rfl (fun q h => by cases h; rfl) rfl rfl rfl kq ?_
  refine mw_aload_n dX3_init_12 rfl ?_
  refine mw_bipush (v := 96) dX3_init_13 (by decide) ?_
  refine mw_newi (S := alS S q 0 8 96) (N := 96) dX3_init_15 arr_int (by decide) (by decide) (by decide) (by decide) (by decide) ?_
  refine mw_putFr (S := nwS (alS S q 0 8 96) 8 96) (a := (alS S q 0 8 96).1) dX3_init_17 fl_X3_15 ft_3_9 rfl (fun q h => by cases h; rfl) rfl rfl rfl kq2 ?_
  exact mw_vret dX3_init_20 rfl (by decide) (by decide) (⟨rfl, rfl, rfl⟩)
theorem dX2_init_0 : decode fX2_init.2.1 0 = .ok (.aload_n 0, 1) := by decide +kernel
theorem dX2_init_1 : decode fX2_init.2.1 1 = .ok (.invokespecial 1, 3) := by decide +kernel
theorem dX2_init_4 : decode fX2_init.2.1 4 = .ok (.aload_n 0, 1) := by decide +kernel
theorem dX2_init_5 : decode fX2_init.2.1 5 = .ok (.new 7, 3) := by decide +kernel
theorem dX2_init_8 : decode fX2_init.2.1 8 = .ok (.dup, 1) := by decide +kernel
theorem dX2_init_9 : decode fX2_init.2.1 9 = .ok (.invokespecial 9, 3) := by decide +kernel
theorem dX2_init_12 : decode fX2_init.2.1 12 = .ok (.putfield 10, 3) := by decide +kernel
theorem dX2_init_15 : decode fX2_init.2.1 15 = .ok (.aload_n 0, 1) := by decide +kernel
theorem dX2_init_16 : decode fX2_init.2.1 16 = .ok (.new 16, 3) := by decide +kernel
theorem dX2_init_19 : decode fX2_init.2.1 19 = .ok (.dup, 1) := by decide +kernel
theorem dX2_init_20 : decode fX2_init.2.1 20 = .ok (.invokespecial 18, 3) := by decide +kernel
theorem dX2_init_23 : decode fX2_init.2.1 23 = .ok (.putfield 19, 3) := by decide +kernel
theorem dX2_init_26 : decode fX2_init.2.1 26 = .ok (.return_, 1) := by decide +kernel
set_option maxRecDepth 100000 in
set_option maxHeartbeats 4000000 in
theorem ok_X2_init {X : Xb} {S : Sg} {mi : Mem} {q : Nat} (hq : Kd S q 2 0) (h1 : S.1 = q + 1) : Ok 2 3 32 fX2_init X [rf X q] S mi (fun r S' m => r = none ∧ S'.1 = q + 4 ∧ Ext q S S' ∧ SlA S' q ∧ (∀ a, a < q + 1 → m a = mi a) ∧ (∀ j, m (q + 1) j = 0) ∧ m (q + 2) 1 = -1 ∧ m (q + 2) 2 = 0 ∧ ∀ j, m (q + 3) j = 0) := by
  refine Ok.go [some (rf X q)] (by decide) (by simp [Value.category]) (Nat.le_of_ble_eq_true rfl) rfl ?_
  have kq1 : Kd (nwS S 0 0) q 2 0 := Kd_nw hq
  have a1 : (alS S q 1 0 0).1 = q + 2 := by rw [al_1, h1]
  have kn2 : Kd (nwS (alS S q 1 0 0) 1 0) (q + 2) 1 0 := by have := Kd_nw0 (alS S q 1 0 0) 1 0; rw [a1] at this; exact this
  have kq3 : Kd (alS (nwS (alS S q 1 0 0) 1 0) (q + 2) 0 8 24) q 2 0 := al_kd (Kd_nw (al_kd hq))
  have n21 : (nwS (alS S q 1 0 0) 1 0).1 = q + 3 := by show (alS S q 1 0 0).1 + 1 = _; rw [a1]
  have n31 : (alS (nwS (alS S q 1 0 0) 1 0) (q + 2) 0 8 24).1 = q + 4 := by rw [al_1, n21]
  have kat : Kd (alS (nwS (alS S q 1 0 0) 1 0) (q + 2) 0 8 24) (q + 1) 0 0 := by have := al_kd0 S q 1 0 0; rw [h1] at this; exact al_kd (Kd_nw this)
  have ksh : Kd (alS (nwS (alS S q 1 0 0) 1 0) (q + 2) 0 8 24) (q + 2) 1 0 := al_kd kn2
  have kpl : Kd (alS (nwS (alS S q 1 0 0) 1 0) (q + 2) 0 8 24) (q + 3) 8 24 := by have := al_kd0 (nwS (alS S q 1 0 0) 1 0) (q + 2) 0 8 24; rw [n21] at this; exact this
  have r1 : (alS (nwS (alS S q 1 0 0) 1 0) (q + 2) 0 8 24).2.2 q 1 = some (q + 1) := by rw [al_r (by rw [n21]; omega) (by omega), nw_r (by rw [a1]; omega), al_r0, h1]
  have r2 : (alS (nwS (alS S q 1 0 0) 1 0) (q + 2) 0 8 24).2.2 (q + 2) 0 = some (q + 3) := by rw [al_r0, n21]
  have ex : Ext q S ((alS (nwS (alS S q 1 0 0) 1 0) (q + 2) 0 8 24).1, (alS (nwS (alS S q 1 0 0) 1 0) (q + 2) 0 8 24).2.1, r_up (alS (nwS (alS S q 1 0 0) 1 0) (q + 2) 0 8 24).2.2 q 2 (some (q + 2))) := by
    refine ⟨by show S.1 ≤ (alS (nwS (alS S q 1 0 0) 1 0) (q + 2) 0 8 24).1; rw [n31, h1]; omega, fun a ha => ?_, fun a ha hqa => ?_⟩
    · show (alS (nwS (alS S q 1 0 0) 1 0) (q + 2) 0 8 24).2.1 a = _
      exact ((Ext.al (nwS (alS S q 1 0 0) 1 0) (q + 2) 0 8 24).2.1 a (by rw [n21]; omega)).trans (((Ext.nw (alS S q 1 0 0) q 1 0).2.1 a (by rw [a1]; omega)).trans ((Ext.al S q 1 0 0).2.1 a ha))
    · show r_up (alS (nwS (alS S q 1 0 0) 1 0) (q + 2) 0 8 24).2.2 q 2 (some (q + 2)) a = _
      rw [r_up_ne hqa]
      exact ((Ext.al (nwS (alS S q 1 0 0) 1 0) (q + 2) 0 8 24).2.2 a (by rw [n21]; omega) (by omega)).trans (((Ext.nw (alS S q 1 0 0) q 1 0).2.2 a (by rw [a1]; omega) hqa).trans ((Ext.al S q 1 0 0).2.2 a ha hqa))
  refine mw_aload_n dX2_init_0 rfl ?_
  refine mw_objI dX2_init_1 ml_X2_1 (Nat.le_of_ble_eq_true rfl) ⟨by decide, by decide⟩ ?_
  refine mw_aload_n dX2_init_4 rfl ?_
  refine mw_new (ci := 0) dX2_init_5 rfl cl_X2_7 (by decide) (by decide) ?_
  refine mw_dup dX2_init_8 rfl ?_
  refine mw_callIN (g := fX0_init) dX2_init_9 nl_X2_9 mfX0_init (ok_X0_init (S := nwS S 0 0) (mi := nwM S mi) (a := S.1)) rfl rfl (Nat.le_of_ble_eq_true rfl) ⟨by decide, by decide⟩ ⟨by decide, by decide⟩ (fun r S2 m2 hp => ?_)
  obtain ⟨rfl, e1, e2⟩ := hp
  rw [e1, e2]
  refine mw_putFr (a := S.1) dX2_init_12 fl_X2_10 ft_2_1 rfl (fun q h => by cases h; rfl) rfl rfl rfl kq1 ?_
  refine mw_aload_n dX2_init_15 rfl ?_
  refine mw_new (S := alS S q 1 0 0) (ci := 1) dX2_init_16 rfl cl_X2_16 (by decide) (by decide) ?_
  rw [a1]
  refine mw_dup dX2_init_19 rfl ?_
  refine mw_callIN (g := fX1_init) dX2_init_20 nl_X2_18 mfX1_init (ok_X1_init (q := q + 2) kn2) rfl rfl (Nat.le_of_ble_eq_true rfl) ⟨by decide, by decide⟩ ⟨by decide, by decide⟩ (fun r S3 m3 hp => ?_)
  obtain ⟨rfl, e1, e2⟩ := hp
  rw [e1, e2]
  refine mw_putFr (S := (alS (nwS (alS S q 1 0 0) 1 0) (q + 2) 0 8 24)) (a := q + 2) dX2_init_23 fl_X2_19 ft_2_2 rfl (fun q h => by cases h; rfl) rfl rfl rfl kq3 ?_
  refine mw_vret dX2_init_26 rfl (by decide) (by decide) ⟨rfl, n31, ex, ⟨kq3, ⟨?_, kat⟩, ?_, ksh, ?_, kpl⟩, ?_, ?_, ?_, ?_, ?_⟩
  · show r_up (alS (nwS (alS S q 1 0 0) 1 0) (q + 2) 0 8 24).2.2 q 2 (some (q + 2)) q 1 = _; simp only [r_up]; rw [if_neg (by omega)]; exact r1
  · show r_up (alS (nwS (alS S q 1 0 0) 1 0) (q + 2) 0 8 24).2.2 q 2 (some (q + 2)) q 2 = _; simp [r_up]
  · show r_up (alS (nwS (alS S q 1 0 0) 1 0) (q + 2) 0 8 24).2.2 q 2 (some (q + 2)) (q + 2) 0 = _; simp only [r_up]; rw [if_neg (by omega)]; exact r2
  · intro a ha
    rw [m_up_ne (by omega), nw_m (by rw [n21]; omega), nw_m (by rw [a1]; omega), nw_m (by rw [h1]; omega)]
  · intro j
    rw [m_up_ne (by omega), nw_m (by rw [n21]; omega), nw_m (by rw [a1]; omega)]
    show (if q + 1 = S.1 then (0 : Int32) else _) = 0
    rw [if_pos h1.symm]
  · rw [m_up_at]
  · rw [m_up_of (by decide), nw_m (by rw [n21]; omega)]
    show (if q + 2 = (alS S q 1 0 0).1 then (0 : Int32) else _) = 0
    rw [if_pos a1.symm]
  · intro j
    rw [m_up_ne (by omega)]
    show (if q + 3 = (nwS (alS S q 1 0 0) 1 0).1 then (0 : Int32) else _) = 0
    rw [if_pos n21.symm]
