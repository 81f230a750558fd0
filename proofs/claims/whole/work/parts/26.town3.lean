/-! Town: new attics, choices, copies -/
theorem mw_aastN {X : Xb} {fr : Fr} {R : Room} {kc sl pc : Nat} {L : List (Option Value)} {st : List Value} {S : Sg} {mi : Mem} {Q : Qt} {i z : Nat} {j : Int32} (hd : decode fr.2.1 pc = .ok (.aastore, 1)) (hk : Kd S i 14 z) (hin : vp_in j z) (kk : MW X fr R kc sl (pc + 1) L st (S.1, S.2.1, r_up S.2.2 i j.toNatClampNeg none) mi Q) : MW X fr R kc sl pc L (.null :: .int j :: .ref (X.1 + i) :: st) S mi Q := by
  intro p l e s m args below meth c H locs ls C hS hP hL
  have hat := hP.2 i _ (ws_at hk.1)
  rw [cell_ref hk (by decide)] at hat
  have hK := C.2.2.2.2.2.2.2.2.2.1
  refine va_WaastN (C := RX4) C.1 C.2.1 hat ((hK.2 6 _ rfl).1 z (fun j => va_rf ((S.2.2 i j).map (X.1 + ·)))) (fun h => by cases h) (by show ¬ (j < 0 ∨ (arrV _ _ _).slots.size ≤ _); rw [arrV_size]; exact hin) rfl rfl hd fun H1 e1 e2 e3 => ?_
  refine kk p l e s m args below meth c H1 _ ls C (hS.put e2 e3 (Nat.le_add_right _ _)) (Wp_put (i := i) hP rfl (fun j hj => cell_eq rfl rfl (r_up_ne hj)) e2 e3 ?_) hL
  rw [cell_ref (S := (S.1, S.2.1, r_up S.2.2 i j.toNatClampNeg none)) (z := z) hk (by decide)]
  show H1[X.1 + i]? = some (vp_cell _ _)
  rw [e1, vp_cell_q, vp_cell_q, arrV_store]
  congr 2
  funext q
  by_cases hq : q = j.toNatClampNeg
  · subst hq; simp [updV, r_up, va_rf]
  · simp [updV, r_up, hq]
def new5 (B : Nat → Int32) (n : Nat) (k f w : Int32) : Nat → Int32 := upd (upd (upd (upd (upd B (26 + 5 * n) k) (26 + 5 * n + 1) f) (26 + 5 * n + 2) w) (26 + 5 * n + 3) 0) (26 + 5 * n + 4) 0
theorem tv_new {n t : Nat} {m : Mem} {B : Nat → Int32} {k f w : Int32} (hn : n < 8) (h : eqOn (26 + 5 * n) (tv m t) B) : eqOn (26 + 5 * (n + 1)) (tv (m_up (m_up (m_up (m_up (m_up m (t + 9 + n) 0 k) (t + 9 + n) 1 f) (t + 9 + n) 2 w) (t + 9 + n) 3 0) (t + 9 + n) 4 0) t) (new5 B n k f w) := by
  have h0 : eqOn (26 + 5 * (n + 1)) (tv m t) (fun j => if j < 26 + 5 * n then B j else tv m t j) := by
    intro j hj
    by_cases c : j < 26 + 5 * n
    · simp [c, h j c]
    · simp [c]
  have h1 := tv_upA (v := 0) hn (show 4 < 5 by decide) (tv_upA (v := 0) hn (show 3 < 5 by decide) (tv_upA (v := w) hn (show 2 < 5 by decide) (tv_upA (v := f) hn (show 1 < 5 by decide) (tv_upA (v := k) hn (show 0 < 5 by decide) h0))))
  intro j hj
  rw [h1 j hj]
  simp only [new5, upd]
  grind
def comesF (A : Nat → Int32) (n : Nat) (k f w : Int32) : Nat → Int32 := upd (new5 A n k f w) 1 (nI (n + 1))
theorem dX5_addAttic_0 : decode fX5_addAttic.2.1 0 = .ok (.aload_n 0, 1) := by decide +kernel
theorem dX5_addAttic_1 : decode fX5_addAttic.2.1 1 = .ok (.getfield 59, 3) := by decide +kernel
theorem dX5_addAttic_4 : decode fX5_addAttic.2.1 4 = .ok (.bipush 8, 2) := by decide +kernel
theorem dX5_addAttic_6 : decode fX5_addAttic.2.1 6 = .ok (.if_icmp .lt 6, 3) := by decide +kernel
theorem dX5_addAttic_9 : decode fX5_addAttic.2.1 9 = .ok (.ldc 84, 2) := by decide +kernel
theorem dX5_addAttic_11 : decode fX5_addAttic.2.1 11 = .ok (.ireturn, 1) := by decide +kernel
theorem dX5_addAttic_12 : decode fX5_addAttic.2.1 12 = .ok (.aload_n 0, 1) := by decide +kernel
theorem dX5_addAttic_13 : decode fX5_addAttic.2.1 13 = .ok (.getfield 20, 3) := by decide +kernel
theorem dX5_addAttic_16 : decode fX5_addAttic.2.1 16 = .ok (.aload_n 0, 1) := by decide +kernel
theorem dX5_addAttic_17 : decode fX5_addAttic.2.1 17 = .ok (.getfield 59, 3) := by decide +kernel
theorem dX5_addAttic_20 : decode fX5_addAttic.2.1 20 = .ok (.aaload, 1) := by decide +kernel
theorem dX5_addAttic_21 : decode fX5_addAttic.2.1 21 = .ok (.iload_n 1, 1) := by decide +kernel
theorem dX5_addAttic_22 : decode fX5_addAttic.2.1 22 = .ok (.iload_n 2, 1) := by decide +kernel
theorem dX5_addAttic_23 : decode fX5_addAttic.2.1 23 = .ok (.iload_n 3, 1) := by decide +kernel
theorem dX5_addAttic_24 : decode fX5_addAttic.2.1 24 = .ok (.invokevirtual 85, 3) := by decide +kernel
theorem dX5_addAttic_27 : decode fX5_addAttic.2.1 27 = .ok (.aload_n 0, 1) := by decide +kernel
theorem dX5_addAttic_28 : decode fX5_addAttic.2.1 28 = .ok (.dup, 1) := by decide +kernel
theorem dX5_addAttic_29 : decode fX5_addAttic.2.1 29 = .ok (.getfield 59, 3) := by decide +kernel
theorem dX5_addAttic_32 : decode fX5_addAttic.2.1 32 = .ok (.iconst 1, 1) := by decide +kernel
theorem dX5_addAttic_33 : decode fX5_addAttic.2.1 33 = .ok (.iadd, 1) := by decide +kernel
theorem dX5_addAttic_34 : decode fX5_addAttic.2.1 34 = .ok (.putfield 59, 3) := by decide +kernel
theorem dX5_addAttic_37 : decode fX5_addAttic.2.1 37 = .ok (.aload_n 0, 1) := by decide +kernel
theorem dX5_addAttic_38 : decode fX5_addAttic.2.1 38 = .ok (.getfield 59, 3) := by decide +kernel
theorem dX5_addAttic_41 : decode fX5_addAttic.2.1 41 = .ok (.iconst 1, 1) := by decide +kernel
theorem dX5_addAttic_42 : decode fX5_addAttic.2.1 42 = .ok (.isub, 1) := by decide +kernel
theorem dX5_addAttic_43 : decode fX5_addAttic.2.1 43 = .ok (.ireturn, 1) := by decide +kernel
set_option maxRecDepth 100000 in
set_option maxHeartbeats 4000000 in
theorem ok_X5_addAttic {X : Xb} {S : Sg} {mi : Mem} {t n : Nat} {A : Nat → Int32} {k f w : Int32} (hT : TwA S t) (hn8 : n ≤ 8) (hA : eqOn (26 + 5 * n) (tv mi t) A) (hn : A 1 = nI n) : Ok 1 0 0 fX5_addAttic X [rf X t, .int k, .int f, .int w] S mi (fun r S' m => S' = S ∧ ((n = 8 ∧ r = some (.int (-1000000003)) ∧ m = mi) ∨ (n < 8 ∧ r = some (.int (nI n)) ∧ eqOn (26 + 5 * (n + 1)) (tv m t) (comesF A n k f w) ∧ Frt t mi m))) := by
  refine Ok.go [some (rf X t), some (.int k), some (.int f), some (.int w)] (by decide) (by simp [Value.category]) (Nat.le_of_ble_eq_true rfl) rfl ?_
  obtain ⟨k_t, ⟨r_t_home, k_t_home⟩, ⟨r_t_price, k_t_price⟩, ⟨r_t_attics, k_t_attics⟩, ⟨r_t_texts, k_t_texts⟩, ⟨r_t_counting, k_t_counting⟩, ⟨r_t_names, k_t_names⟩, ⟨r_t_pile, k_t_pile⟩, ⟨r_t_views, k_t_views⟩, a_t⟩ := id hT
  have ec : mi t 3 = nI n := by rw [show (3 : Nat) = tvF 1 from rfl, tv_0 hA (by decide) (by omega), hn]
  refine mw_aload_n dX5_addAttic_0 rfl ?_
  refine mw_geti dX5_addAttic_1 fl_X5_59 rfl (by assumption) ?_
  refine mw_bipush (v := 8) dX5_addAttic_4 (by decide) ?_
  rw [ec]
  refine mw_icmp_lt (tgt := 12) dX5_addAttic_6 (by decide) (fun h6 => ?_) (fun h6 => ?_)
  · skip
    have hlt : n < 8 := (nI_ltI (by omega) (by decide)).mp h6
    have hka := (a_t n hlt).2
    refine mw_aload_n dX5_addAttic_12 rfl ?_
    refine mw_getr dX5_addAttic_13 fl_X5_20 rfl (by assumption) (by assumption) ?_
    refine mw_aload_n dX5_addAttic_16 rfl ?_
    refine mw_geti dX5_addAttic_17 fl_X5_59 rfl (by assumption) ?_
    rw [ec]
    refine mw_aldK (k := n) dX5_addAttic_20 (by assumption) (by decide) (rfl) (hlt) (by decide) ((a_t n hlt).1) ?_
    refine mw_iload_n dX5_addAttic_21 rfl ?_
    refine mw_iload_n dX5_addAttic_22 rfl ?_
    refine mw_iload_n dX5_addAttic_23 rfl ?_
    refine mw_cVV (g := fX0_renew) dX5_addAttic_24 ml_X5_85 mfX0_renew (ok_X0_renew hka) (hka) rfl rfl (Nat.le_of_ble_eq_true rfl) ⟨by decide, by decide⟩ ⟨by decide, by decide⟩ ?_
    refine mw_aload_n dX5_addAttic_27 rfl ?_
    refine mw_dup dX5_addAttic_28 rfl ?_
    refine mw_geti dX5_addAttic_29 fl_X5_59 rfl (by assumption) ?_
    refine mw_iconst (v := 1) dX5_addAttic_32 (by decide) ?_
    have ec5 : (m_up (m_up (m_up (m_up (m_up mi (t + 9 + n) 0 k) (t + 9 + n) 1 f) (t + 9 + n) 2 w) (t + 9 + n) 3 0) (t + 9 + n) 4 0) t 3 = nI n := by simp only [m_up_ne (show t ≠ t + 9 + n by omega)]; exact ec
    rw [ec5]
    refine mw_iadd dX5_addAttic_33 ?_
    rw [nI_1]
    refine mw_puti dX5_addAttic_34 fl_X5_59 ft_5_3 rfl (rfl) rfl (by assumption) ?_
    refine mw_aload_n dX5_addAttic_37 rfl ?_
    refine mw_geti dX5_addAttic_38 fl_X5_59 rfl (by assumption) ?_
    rw [m_up_at]
    refine mw_iconst (v := 1) dX5_addAttic_41 (by decide) ?_
    refine mw_isub dX5_addAttic_42 ?_
    rw [nI_pred]
    exact mw_iret dX5_addAttic_43 rfl (by decide) (by decide) (⟨rfl, Or.inr ⟨hlt, rfl, tv_up0 (j := 1) (by decide) (tv_new hlt hA), ((((((Frt.rf t mi).upA hlt).upA hlt).upA hlt).upA hlt).upA hlt).up0⟩⟩)
  · skip
    refine mw_ldc dX5_addAttic_9 cn_X5_84 ?_
    exact mw_iret dX5_addAttic_11 rfl (by decide) (by decide) (⟨rfl, Or.inl ⟨by have : ¬ n < 8 := fun q => h6 (nI_lt (b := 8) q (by decide)); omega, rfl, rfl⟩⟩)
theorem dX5_drawAttic_0 : decode fX5_drawAttic.2.1 0 = .ok (.aload_n 0, 1) := by decide +kernel
theorem dX5_drawAttic_1 : decode fX5_drawAttic.2.1 1 = .ok (.invokevirtual 89, 3) := by decide +kernel
theorem dX5_drawAttic_4 : decode fX5_drawAttic.2.1 4 = .ok (.bipush 6, 2) := by decide +kernel
theorem dX5_drawAttic_6 : decode fX5_drawAttic.2.1 6 = .ok (.irem, 1) := by decide +kernel
theorem dX5_drawAttic_7 : decode fX5_drawAttic.2.1 7 = .ok (.istore_n 1, 1) := by decide +kernel
theorem dX5_drawAttic_8 : decode fX5_drawAttic.2.1 8 = .ok (.aload_n 0, 1) := by decide +kernel
theorem dX5_drawAttic_9 : decode fX5_drawAttic.2.1 9 = .ok (.invokevirtual 89, 3) := by decide +kernel
theorem dX5_drawAttic_12 : decode fX5_drawAttic.2.1 12 = .ok (.bipush 24, 2) := by decide +kernel
theorem dX5_drawAttic_14 : decode fX5_drawAttic.2.1 14 = .ok (.irem, 1) := by decide +kernel
theorem dX5_drawAttic_15 : decode fX5_drawAttic.2.1 15 = .ok (.istore_n 2, 1) := by decide +kernel
theorem dX5_drawAttic_16 : decode fX5_drawAttic.2.1 16 = .ok (.aload_n 0, 1) := by decide +kernel
theorem dX5_drawAttic_17 : decode fX5_drawAttic.2.1 17 = .ok (.invokevirtual 89, 3) := by decide +kernel
theorem dX5_drawAttic_20 : decode fX5_drawAttic.2.1 20 = .ok (.bipush 12, 2) := by decide +kernel
theorem dX5_drawAttic_22 : decode fX5_drawAttic.2.1 22 = .ok (.irem, 1) := by decide +kernel
theorem dX5_drawAttic_23 : decode fX5_drawAttic.2.1 23 = .ok (.iconst 1, 1) := by decide +kernel
theorem dX5_drawAttic_24 : decode fX5_drawAttic.2.1 24 = .ok (.iadd, 1) := by decide +kernel
theorem dX5_drawAttic_25 : decode fX5_drawAttic.2.1 25 = .ok (.istore_n 3, 1) := by decide +kernel
theorem dX5_drawAttic_26 : decode fX5_drawAttic.2.1 26 = .ok (.aload_n 0, 1) := by decide +kernel
theorem dX5_drawAttic_27 : decode fX5_drawAttic.2.1 27 = .ok (.iload_n 1, 1) := by decide +kernel
theorem dX5_drawAttic_28 : decode fX5_drawAttic.2.1 28 = .ok (.iload_n 2, 1) := by decide +kernel
theorem dX5_drawAttic_29 : decode fX5_drawAttic.2.1 29 = .ok (.iload_n 3, 1) := by decide +kernel
theorem dX5_drawAttic_30 : decode fX5_drawAttic.2.1 30 = .ok (.invokevirtual 93, 3) := by decide +kernel
theorem dX5_drawAttic_33 : decode fX5_drawAttic.2.1 33 = .ok (.pop, 1) := by decide +kernel
theorem dX5_drawAttic_34 : decode fX5_drawAttic.2.1 34 = .ok (.return_, 1) := by decide +kernel
def drawF (A : Nat → Int32) (n : Nat) : Nat → Int32 := comesF (upd A 0 (nz1 (nz1 (nz1 (A 0))))) n (jr (jus (nz1 (A 0)) 8) 6) (jr (jus (nz1 (nz1 (A 0))) 8) 24) (jr (jus (nz1 (nz1 (nz1 (A 0)))) 8) 12 + 1)
set_option maxRecDepth 100000 in
set_option maxHeartbeats 4000000 in
theorem ok_X5_drawAttic {X : Xb} {S : Sg} {mi : Mem} {t n : Nat} {A : Nat → Int32} (hT : TwA S t) (hn8 : n < 8) (hA : eqOn (26 + 5 * n) (tv mi t) A) (hn : A 1 = nI n) : Ok 2 0 0 fX5_drawAttic X [rf X t] S mi (fun r S' m => r = none ∧ S' = S ∧ eqOn (26 + 5 * (n + 1)) (tv m t) (drawF A n) ∧ Frt t mi m) := by
  refine Ok.go [some (rf X t), none, none, none] (by decide) (by simp [Value.category]) (Nat.le_of_ble_eq_true rfl) rfl ?_
  obtain ⟨k_t, ⟨r_t_home, k_t_home⟩, ⟨r_t_price, k_t_price⟩, ⟨r_t_attics, k_t_attics⟩, ⟨r_t_texts, k_t_texts⟩, ⟨r_t_counting, k_t_counting⟩, ⟨r_t_names, k_t_names⟩, ⟨r_t_pile, k_t_pile⟩, ⟨r_t_views, k_t_views⟩, a_t⟩ := id hT
  have e0 : mi t 11 = A 0 := tv_0 (j := 0) hA (by decide) (by omega)
  refine mw_aload_n dX5_drawAttic_0 rfl ?_
  refine mw_cVI (g := fX5_draw) dX5_drawAttic_1 ml_X5_89 mfX5_draw (ok_X5_draw hT) (by assumption) rfl rfl (Nat.le_of_ble_eq_true rfl) ⟨by decide, by decide⟩ ⟨by decide, by decide⟩ ?_
  refine mw_bipush (v := 6) dX5_drawAttic_4 (by decide) ?_
  refine mw_irem dX5_drawAttic_6 (by decide) ?_
  refine mw_istN 1 dX5_drawAttic_7 rfl (by decide) ?_
  refine mw_aload_n dX5_drawAttic_8 rfl ?_
  refine mw_cVI (g := fX5_draw) dX5_drawAttic_9 ml_X5_89 mfX5_draw (ok_X5_draw hT) (by assumption) rfl rfl (Nat.le_of_ble_eq_true rfl) ⟨by decide, by decide⟩ ⟨by decide, by decide⟩ ?_
  refine mw_bipush (v := 24) dX5_drawAttic_12 (by decide) ?_
  refine mw_irem dX5_drawAttic_14 (by decide) ?_
  refine mw_istN 2 dX5_drawAttic_15 rfl (by decide) ?_
  refine mw_aload_n dX5_drawAttic_16 rfl ?_
  refine mw_cVI (g := fX5_draw) dX5_drawAttic_17 ml_X5_89 mfX5_draw (ok_X5_draw hT) (by assumption) rfl rfl (Nat.le_of_ble_eq_true rfl) ⟨by decide, by decide⟩ ⟨by decide, by decide⟩ ?_
  rw [m_up_at, m_up_up, m_up_at, m_up_up, e0]
  refine mw_bipush (v := 12) dX5_drawAttic_20 (by decide) ?_
  refine mw_irem dX5_drawAttic_22 (by decide) ?_
  refine mw_iconst (v := 1) dX5_drawAttic_23 (by decide) ?_
  refine mw_iadd dX5_drawAttic_24 ?_
  refine mw_istN 3 dX5_drawAttic_25 rfl (by decide) ?_
  refine mw_aload_n dX5_drawAttic_26 rfl ?_
  refine mw_iload_n dX5_drawAttic_27 rfl ?_
  refine mw_iload_n dX5_drawAttic_28 rfl ?_
  refine mw_iload_n dX5_drawAttic_29 rfl ?_
  refine mw_callV (g := fX5_addAttic) dX5_drawAttic_30 ml_X5_93 mfX5_addAttic (ok_X5_addAttic (n := n) (A := upd A 0 (nz1 (nz1 (nz1 (A 0))))) hT (by omega) (tv_up0 (j := 0) (by decide) hA) (by simp [upd, hn])) (by assumption) rfl rfl (Nat.le_of_ble_eq_true rfl) ⟨by decide, by decide⟩ ⟨by decide, by decide⟩ (fun r S2 mi2 hp => ?_)
  obtain ⟨e1, h | ⟨hlt, rfl, h2, h3⟩⟩ := hp
  · omega
  rw [e1]
  refine mw_pop dX5_drawAttic_33 rfl ?_
  exact mw_vret dX5_drawAttic_34 rfl (by decide) (by decide) (⟨rfl, rfl, h2, ((Frt.rf t mi).up0).tr h3⟩)
/-- a choice made: where to face (0), to build (1), what to become (2) -/
def chF (c : Int32) (a : Nat) (v : Int32) (B : Nat → Int32) : Nat → Int32 := if c = 1 then upd B 9 (B 9 ||| (1 <<< (v &&& 31))) else if c = 0 then upd B (26 + 5 * a + 1) v else upd B (26 + 5 * a) v
def chB (c v : Int32) (B : Nat → Int32) : Bool := !decide (c = 1) || decide (B 9 >>> (v &&& 31) &&& 1 = 0)
theorem dX5_choose_0 : decode fX5_choose.2.1 0 = .ok (.iload_n 1, 1) := by decide +kernel
theorem dX5_choose_1 : decode fX5_choose.2.1 1 = .ok (.iconst 1, 1) := by decide +kernel
theorem dX5_choose_2 : decode fX5_choose.2.1 2 = .ok (.if_icmp .ne 36, 3) := by decide +kernel
theorem dX5_choose_5 : decode fX5_choose.2.1 5 = .ok (.aload_n 0, 1) := by decide +kernel
theorem dX5_choose_6 : decode fX5_choose.2.1 6 = .ok (.getfield 66, 3) := by decide +kernel
theorem dX5_choose_9 : decode fX5_choose.2.1 9 = .ok (.iload_n 3, 1) := by decide +kernel
theorem dX5_choose_10 : decode fX5_choose.2.1 10 = .ok (.ishr, 1) := by decide +kernel
theorem dX5_choose_11 : decode fX5_choose.2.1 11 = .ok (.iconst 1, 1) := by decide +kernel
theorem dX5_choose_12 : decode fX5_choose.2.1 12 = .ok (.iand, 1) := by decide +kernel
theorem dX5_choose_13 : decode fX5_choose.2.1 13 = .ok (.ifCond .ne 7, 3) := by decide +kernel
theorem dX5_choose_16 : decode fX5_choose.2.1 16 = .ok (.iconst 1, 1) := by decide +kernel
theorem dX5_choose_17 : decode fX5_choose.2.1 17 = .ok (.goto 4, 3) := by decide +kernel
theorem dX5_choose_20 : decode fX5_choose.2.1 20 = .ok (.iconst 0, 1) := by decide +kernel
theorem dX5_choose_21 : decode fX5_choose.2.1 21 = .ok (.istore 4, 2) := by decide +kernel
theorem dX5_choose_23 : decode fX5_choose.2.1 23 = .ok (.aload_n 0, 1) := by decide +kernel
theorem dX5_choose_24 : decode fX5_choose.2.1 24 = .ok (.dup, 1) := by decide +kernel
theorem dX5_choose_25 : decode fX5_choose.2.1 25 = .ok (.getfield 66, 3) := by decide +kernel
theorem dX5_choose_28 : decode fX5_choose.2.1 28 = .ok (.iconst 1, 1) := by decide +kernel
theorem dX5_choose_29 : decode fX5_choose.2.1 29 = .ok (.iload_n 3, 1) := by decide +kernel
theorem dX5_choose_30 : decode fX5_choose.2.1 30 = .ok (.ishl, 1) := by decide +kernel
theorem dX5_choose_31 : decode fX5_choose.2.1 31 = .ok (.ior, 1) := by decide +kernel
theorem dX5_choose_32 : decode fX5_choose.2.1 32 = .ok (.putfield 66, 3) := by decide +kernel
theorem dX5_choose_35 : decode fX5_choose.2.1 35 = .ok (.iload 4, 2) := by decide +kernel
theorem dX5_choose_37 : decode fX5_choose.2.1 37 = .ok (.ireturn, 1) := by decide +kernel
theorem dX5_choose_38 : decode fX5_choose.2.1 38 = .ok (.iload_n 2, 1) := by decide +kernel
theorem dX5_choose_39 : decode fX5_choose.2.1 39 = .ok (.iconst 0, 1) := by decide +kernel
theorem dX5_choose_40 : decode fX5_choose.2.1 40 = .ok (.aload_n 0, 1) := by decide +kernel
theorem dX5_choose_41 : decode fX5_choose.2.1 41 = .ok (.getfield 59, 3) := by decide +kernel
theorem dX5_choose_44 : decode fX5_choose.2.1 44 = .ok (.iconst 1, 1) := by decide +kernel
theorem dX5_choose_45 : decode fX5_choose.2.1 45 = .ok (.isub, 1) := by decide +kernel
theorem dX5_choose_46 : decode fX5_choose.2.1 46 = .ok (.invokestatic 113, 3) := by decide +kernel
theorem dX5_choose_49 : decode fX5_choose.2.1 49 = .ok (.ifCond .ne 5, 3) := by decide +kernel
theorem dX5_choose_52 : decode fX5_choose.2.1 52 = .ok (.iconst 0, 1) := by decide +kernel
theorem dX5_choose_53 : decode fX5_choose.2.1 53 = .ok (.ireturn, 1) := by decide +kernel
theorem dX5_choose_54 : decode fX5_choose.2.1 54 = .ok (.iload_n 1, 1) := by decide +kernel
theorem dX5_choose_55 : decode fX5_choose.2.1 55 = .ok (.ifCond .ne 16, 3) := by decide +kernel
theorem dX5_choose_58 : decode fX5_choose.2.1 58 = .ok (.aload_n 0, 1) := by decide +kernel
theorem dX5_choose_59 : decode fX5_choose.2.1 59 = .ok (.getfield 20, 3) := by decide +kernel
theorem dX5_choose_62 : decode fX5_choose.2.1 62 = .ok (.iload_n 2, 1) := by decide +kernel
theorem dX5_choose_63 : decode fX5_choose.2.1 63 = .ok (.aaload, 1) := by decide +kernel
theorem dX5_choose_64 : decode fX5_choose.2.1 64 = .ok (.iload_n 3, 1) := by decide +kernel
theorem dX5_choose_65 : decode fX5_choose.2.1 65 = .ok (.putfield 117, 3) := by decide +kernel
theorem dX5_choose_68 : decode fX5_choose.2.1 68 = .ok (.goto 13, 3) := by decide +kernel
theorem dX5_choose_71 : decode fX5_choose.2.1 71 = .ok (.aload_n 0, 1) := by decide +kernel
theorem dX5_choose_72 : decode fX5_choose.2.1 72 = .ok (.getfield 20, 3) := by decide +kernel
theorem dX5_choose_75 : decode fX5_choose.2.1 75 = .ok (.iload_n 2, 1) := by decide +kernel
theorem dX5_choose_76 : decode fX5_choose.2.1 76 = .ok (.aaload, 1) := by decide +kernel
theorem dX5_choose_77 : decode fX5_choose.2.1 77 = .ok (.iload_n 3, 1) := by decide +kernel
theorem dX5_choose_78 : decode fX5_choose.2.1 78 = .ok (.putfield 120, 3) := by decide +kernel
theorem dX5_choose_81 : decode fX5_choose.2.1 81 = .ok (.iconst 1, 1) := by decide +kernel
theorem dX5_choose_82 : decode fX5_choose.2.1 82 = .ok (.ireturn, 1) := by decide +kernel
set_option maxRecDepth 100000 in
set_option maxHeartbeats 4000000 in
theorem ok_X5_choose {X : Xb} {S : Sg} {mi : Mem} {t n a : Nat} {A : Nat → Int32} {c v : Int32} (hT : TwA S t) (hn8 : n ≤ 8) (hA : eqOn (26 + 5 * n) (tv mi t) A) (hn : A 1 = nI n) (hc : c = 1 ∨ a < n) : Ok 1 0 0 fX5_choose X [rf X t, .int c, .int (nI a), .int v] S mi (fun r S' m => r = some (.int (b2i (chB c v A = true))) ∧ S' = S ∧ eqOn (26 + 5 * n) (tv m t) (chF c a v A) ∧ Frt t mi m) := by
  refine Ok.go [some (rf X t), some (.int c), some (.int (nI a)), some (.int v), none] (by decide) (by simp [Value.category]) (Nat.le_of_ble_eq_true rfl) rfl ?_
  obtain ⟨k_t, ⟨r_t_home, k_t_home⟩, ⟨r_t_price, k_t_price⟩, ⟨r_t_attics, k_t_attics⟩, ⟨r_t_texts, k_t_texts⟩, ⟨r_t_counting, k_t_counting⟩, ⟨r_t_names, k_t_names⟩, ⟨r_t_pile, k_t_pile⟩, ⟨r_t_views, k_t_views⟩, a_t⟩ := id hT
  have ec : mi t 3 = nI n := by rw [show (3 : Nat) = tvF 1 from rfl, tv_0 hA (by decide) (by omega), hn]
  have e4 : mi t 4 = A 9 := tv_0 (j := 9) hA (by decide) (by omega)
  have F0 := Frt.rf t mi
  refine mw_iload_n dX5_choose_0 rfl ?_
  refine mw_iconst (v := 1) dX5_choose_1 (by decide) ?_
  refine mw_icmp_ne (tgt := 38) dX5_choose_2 (by decide) (fun h2 => ?_) (fun h2 => ?_)
  · skip
    have han : a < n := hc.resolve_left h2
    have hka := (a_t a (by omega)).2
    refine mw_iload_n dX5_choose_38 rfl ?_
    refine mw_iconst (v := 0) dX5_choose_39 (by decide) ?_
    refine mw_aload_n dX5_choose_40 rfl ?_
    refine mw_geti dX5_choose_41 fl_X5_59 rfl (by assumption) ?_
    rw [ec]
    refine mw_iconst (v := 1) dX5_choose_44 (by decide) ?_
    refine mw_isub dX5_choose_45 ?_
    refine mw_cSNI (g := fX6_within) dX5_choose_46 nl_X5_113 mfX6_within (ok_X6_within) rfl rfl (Nat.le_of_ble_eq_true rfl) ⟨by decide, by decide⟩ ⟨by decide, by decide⟩ ?_
    refine mw_if_neB (tgt := 54) dX5_choose_49 (by decide) (fun h49 => ?_) (fun h49 => ?_)
    · skip
      refine mw_iload_n dX5_choose_54 rfl ?_
      refine mw_if_ne (tgt := 71) dX5_choose_55 (by decide) (fun h55 => ?_) (fun h55 => ?_)
      · skip
        refine mw_aload_n dX5_choose_71 rfl ?_
        refine mw_getr dX5_choose_72 fl_X5_20 rfl (by assumption) (by assumption) ?_
        refine mw_iload_n dX5_choose_75 rfl ?_
        refine mw_aldK (k := a) dX5_choose_76 (by assumption) (by decide) (rfl) (by omega) (by decide) ((a_t a (by omega)).1) ?_
        refine mw_iload_n dX5_choose_77 rfl ?_
        refine mw_puti dX5_choose_78 fl_X5_120 ft_0_0 rfl (rfl) rfl (by assumption) ?_
        refine mw_iconst (v := 1) dX5_choose_81 (by decide) ?_
        exact mw_bret dX5_choose_82 rfl (by first | exact Or.inl rfl | exact Or.inr rfl | exact b2i_01) (by decide) (by decide) (⟨by simp [chB, b2i, h2], rfl, by first | (rw [chF, if_neg h2, if_pos h55]; exact tv_upA (by omega) (by decide) hA) | (rw [chF, if_neg h2, if_neg h55]; exact tv_upA (f := 0) (by omega) (by decide) hA), F0.upA (by omega)⟩)
      · skip
        refine mw_aload_n dX5_choose_58 rfl ?_
        refine mw_getr dX5_choose_59 fl_X5_20 rfl (by assumption) (by assumption) ?_
        refine mw_iload_n dX5_choose_62 rfl ?_
        refine mw_aldK (k := a) dX5_choose_63 (by assumption) (by decide) (rfl) (by omega) (by decide) ((a_t a (by omega)).1) ?_
        refine mw_iload_n dX5_choose_64 rfl ?_
        refine mw_puti dX5_choose_65 fl_X5_117 ft_0_1 rfl (rfl) rfl (by assumption) ?_
        refine mw_goto (tgt := 81) dX5_choose_68 (by decide) ?_
        refine mw_iconst (v := 1) dX5_choose_81 (by decide) ?_
        exact mw_bret dX5_choose_82 rfl (by first | exact Or.inl rfl | exact Or.inr rfl | exact b2i_01) (by decide) (by decide) (⟨by simp [chB, b2i, h2], rfl, by first | (rw [chF, if_neg h2, if_pos h55]; exact tv_upA (by omega) (by decide) hA) | (rw [chF, if_neg h2, if_neg h55]; exact tv_upA (f := 0) (by omega) (by decide) hA), F0.upA (by omega)⟩)
    · skip
      refine mw_iconst (v := 0) dX5_choose_52 (by decide) ?_
      exact mw_bret dX5_choose_53 rfl (by first | exact Or.inl rfl | exact Or.inr rfl | exact b2i_01) (by decide) (by decide) ((h49 ⟨nI_pos' (by omega), by rw [show nI n - 1 = nI (n - 1) from nI_sub1 (by omega)]; exact nI_le (by omega) (by omega)⟩).elim)
  · skip
    refine mw_aload_n dX5_choose_5 rfl ?_
    refine mw_geti dX5_choose_6 fl_X5_66 rfl (by assumption) ?_
    rw [e4]
    refine mw_iload_n dX5_choose_9 rfl ?_
    refine mw_ishr dX5_choose_10 ?_
    refine mw_iconst (v := 1) dX5_choose_11 (by decide) ?_
    refine mw_iand dX5_choose_12 ?_
    refine mw_if_ne (tgt := 20) dX5_choose_13 (by decide) (fun h13 => ?_) (fun h13 => ?_)
    · skip
      refine mw_iconst (v := 0) dX5_choose_20 (by decide) ?_
      refine mw_istore dX5_choose_21 (by decide) ?_
      refine mw_aload_n dX5_choose_23 rfl ?_
      refine mw_dup dX5_choose_24 rfl ?_
      refine mw_geti dX5_choose_25 fl_X5_66 rfl (by assumption) ?_
      rw [e4]
      refine mw_iconst (v := 1) dX5_choose_28 (by decide) ?_
      refine mw_iload_n dX5_choose_29 rfl ?_
      refine mw_ishl dX5_choose_30 ?_
      refine mw_ior dX5_choose_31 ?_
      refine mw_puti dX5_choose_32 fl_X5_66 ft_5_4 rfl (rfl) rfl (by assumption) ?_
      refine mw_iload dX5_choose_35 rfl ?_
      exact mw_bret dX5_choose_37 rfl (by first | exact Or.inl rfl | exact Or.inr rfl | exact b2i_01) (by decide) (by decide) (⟨by simp_all [chB, b2i], rfl, by rw [chF, if_pos h2]; exact tv_up0 (j := 9) (by decide) hA, F0.up0⟩)
    · skip
      refine mw_iconst (v := 1) dX5_choose_16 (by decide) ?_
      refine mw_goto (tgt := 21) dX5_choose_17 (by decide) ?_
      refine mw_istore dX5_choose_21 (by decide) ?_
      refine mw_aload_n dX5_choose_23 rfl ?_
      refine mw_dup dX5_choose_24 rfl ?_
      refine mw_geti dX5_choose_25 fl_X5_66 rfl (by assumption) ?_
      rw [e4]
      refine mw_iconst (v := 1) dX5_choose_28 (by decide) ?_
      refine mw_iload_n dX5_choose_29 rfl ?_
      refine mw_ishl dX5_choose_30 ?_
      refine mw_ior dX5_choose_31 ?_
      refine mw_puti dX5_choose_32 fl_X5_66 ft_5_4 rfl (rfl) rfl (by assumption) ?_
      refine mw_iload dX5_choose_35 rfl ?_
      exact mw_bret dX5_choose_37 rfl (by first | exact Or.inl rfl | exact Or.inr rfl | exact b2i_01) (by decide) (by decide) (⟨by simp_all [chB, b2i], rfl, by rw [chF, if_pos h2]; exact tv_up0 (j := 9) (by decide) hA, F0.up0⟩)
