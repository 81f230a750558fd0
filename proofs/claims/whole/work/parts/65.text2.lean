/-! the object's text -/
theorem nwt_kd {S S' : Sg} {n i c z : Nat} (h : NwT S S' n) (k : Kd S i c z) : Kd S' i c z := ⟨by have := h.1; have := k.1; omega, by rw [(h.2.2.2.2 i k.1).1]; exact k.2⟩
theorem nwt_r {S S' : Sg} {n i : Nat} (h : NwT S S' n) (k : i < S.1) : S'.2.2 i = S.2.2 i := (h.2.2.2.2 i k).2
theorem nwt_tw {S S' : Sg} {n t : Nat} (h : NwT S S' n) (k : TwA S t) : TwA S' t := by
  obtain ⟨k0, ⟨a1, b1⟩, ⟨a2, b2⟩, ⟨a3, b3⟩, ⟨a4, b4⟩, ⟨a5, b5⟩, ⟨a6, b6⟩, ⟨a7, b7⟩, ⟨a8, b8⟩, a9⟩ := k
  have e0 := nwt_r h k0.1
  have e3 := nwt_r h b3.1
  exact ⟨nwt_kd h k0, ⟨by rw [e0]; exact a1, nwt_kd h b1⟩, ⟨by rw [e0]; exact a2, nwt_kd h b2⟩, ⟨by rw [e0]; exact a3, nwt_kd h b3⟩, ⟨by rw [e0]; exact a4, nwt_kd h b4⟩, ⟨by rw [e0]; exact a5, nwt_kd h b5⟩, ⟨by rw [e0]; exact a6, nwt_kd h b6⟩, ⟨by rw [e0]; exact a7, nwt_kd h b7⟩, ⟨by rw [e0]; exact a8, nwt_kd h b8⟩, fun i hi => ⟨by rw [e3]; exact (a9 i hi).1, nwt_kd h (a9 i hi).2⟩⟩
theorem nwt_sh {S S' : Sg} {n q : Nat} (h : NwT S S' n) (k : ShA S q) : ShA S' q := ⟨nwt_kd h k.1, by rw [nwt_r h k.1.1]; exact k.2.1, nwt_kd h k.2.2⟩
theorem nwt_as {S S' : Sg} {n x : Nat} (h : NwT S S' n) (k : AsA S x) : AsA S' x := by
  obtain ⟨k0, ⟨a1, b1⟩, ⟨a2, b2⟩, ⟨a3, b3⟩, ⟨a4, b4⟩, ⟨a5, b5⟩, ⟨a6, b6⟩, ⟨a7, b7⟩, ⟨a8, b8⟩, a9, a10⟩ := k
  have e0 := nwt_r h k0.1
  refine ⟨nwt_kd h k0, ⟨by rw [e0]; exact a1, nwt_tw h b1⟩, ⟨by rw [e0]; exact a2, nwt_tw h b2⟩, ⟨by rw [e0]; exact a3, nwt_tw h b3⟩, ⟨by rw [e0]; exact a4, ?_⟩, ⟨by rw [e0]; exact a5, nwt_kd h b5⟩, ⟨by rw [e0]; exact a6, nwt_kd h b6⟩, ⟨by rw [e0]; exact a7, nwt_kd h b7⟩, ⟨by rw [e0]; exact a8, nwt_kd h b8⟩, fun i hi => ⟨by rw [nwt_r h b5.1]; exact (a9 i hi).1, nwt_sh h (a9 i hi).2⟩, fun i hi => ⟨by rw [nwt_r h b6.1]; exact (a10 i hi).1, ?_⟩⟩
  · exact ⟨nwt_kd h b4.1, ⟨by rw [nwt_r h b4.1.1]; exact b4.2.1.1, nwt_kd h b4.2.1.2⟩, by rw [nwt_r h b4.1.1]; exact b4.2.2.1, nwt_kd h b4.2.2.2⟩
  · have s := (a10 i hi).2
    exact ⟨nwt_kd h s.1, ⟨by rw [nwt_r h s.1.1]; exact s.2.1.1, nwt_kd h s.2.1.2⟩, by rw [nwt_r h s.1.1]; exact s.2.2.1, nwt_sh h s.2.2.2⟩
/-- what the object's call text does -/
def TxP (X : Xb) (S : Sg) (mi : Mem) (x c : Nat) (b : Nat → Int32) (len : Nat) : Pt3 := fun r S' m =>
  (∃ ft, rdT b len = .inl ft ∧ r = some (.int (-100 - nI ft)) ∧ S' = S ∧ m (x + 52) 1 = 0 ∧ ∀ a, a ≠ x + 52 → a ≠ x + 54 → m a = mi a) ∨
  (∃ key P S1, rdT b len = .inr (key, P) ∧ key < 3 ∧ P.2.2.length ≤ 96 ∧ NwT S S1 P.2.2.length ∧ m S.1 0 = nI key ∧ m S.1 1 = nI P.2.1.2.2 ∧ (∀ j, j < P.2.2.length → m (S.1 + 1) j = P.2.2.getD j 0) ∧ m (x + 52) 1 = 0 ∧
    ((c = 14 ∧ r = some (.int FULLi) ∧ S' = S1 ∧ ∀ a, a < S.1 → a ≠ x + 52 → a ≠ x + 54 → m a = mi a) ∨
     (c < 14 ∧ r = some (.int (nI c)) ∧ S' = (S1.1, S1.2.1, r_up S1.2.2 (x + 1 + 4) c (some S.1)) ∧ m (x + 1) = upd (mi (x + 1)) 13 (nI (c + 1)) ∧ m (x + 1 + 5) = upd (mi (x + 1 + 5)) key (nI c) ∧ ∀ a, a < S.1 → a ≠ x + 52 → a ≠ x + 54 → a ≠ x + 1 → a ≠ x + 1 + 5 → m a = mi a)))
theorem dX6_text_0 : decode fX6_text.2.1 0 = .ok (.aload_n 0, 1) := by decide +kernel
theorem dX6_text_1 : decode fX6_text.2.1 1 = .ok (.getfield 25, 3) := by decide +kernel
theorem dX6_text_4 : decode fX6_text.2.1 4 = .ok (.invokevirtual 212, 3) := by decide +kernel
theorem dX6_text_7 : decode fX6_text.2.1 7 = .ok (.astore_n 1, 1) := by decide +kernel
theorem dX6_text_8 : decode fX6_text.2.1 8 = .ok (.aload_n 0, 1) := by decide +kernel
theorem dX6_text_9 : decode fX6_text.2.1 9 = .ok (.getfield 25, 3) := by decide +kernel
theorem dX6_text_12 : decode fX6_text.2.1 12 = .ok (.iconst 0, 1) := by decide +kernel
theorem dX6_text_13 : decode fX6_text.2.1 13 = .ok (.putfield 204, 3) := by decide +kernel
theorem dX6_text_16 : decode fX6_text.2.1 16 = .ok (.aload_n 1, 1) := by decide +kernel
theorem dX6_text_17 : decode fX6_text.2.1 17 = .ok (.ifnonnull 16, 3) := by decide +kernel
theorem dX6_text_20 : decode fX6_text.2.1 20 = .ok (.bipush (-100), 2) := by decide +kernel
theorem dX6_text_22 : decode fX6_text.2.1 22 = .ok (.aload_n 0, 1) := by decide +kernel
theorem dX6_text_23 : decode fX6_text.2.1 23 = .ok (.getfield 25, 3) := by decide +kernel
theorem dX6_text_26 : decode fX6_text.2.1 26 = .ok (.getfield 216, 3) := by decide +kernel
theorem dX6_text_29 : decode fX6_text.2.1 29 = .ok (.isub, 1) := by decide +kernel
theorem dX6_text_30 : decode fX6_text.2.1 30 = .ok (.goto 11, 3) := by decide +kernel
theorem dX6_text_33 : decode fX6_text.2.1 33 = .ok (.aload_n 0, 1) := by decide +kernel
theorem dX6_text_34 : decode fX6_text.2.1 34 = .ok (.getfield 10, 3) := by decide +kernel
theorem dX6_text_37 : decode fX6_text.2.1 37 = .ok (.aload_n 1, 1) := by decide +kernel
theorem dX6_text_38 : decode fX6_text.2.1 38 = .ok (.invokevirtual 219, 3) := by decide +kernel
theorem dX6_text_41 : decode fX6_text.2.1 41 = .ok (.ireturn, 1) := by decide +kernel
set_option maxRecDepth 100000 in
set_option maxHeartbeats 4000000 in
theorem ok_X6_text {X : Xb} {S : Sg} {mi : Mem} {x c len : Nat} {b : Nat → Int32} (hX : AsA S x) (hB : TpB mi (x + 52) b len) (hl : len ≤ 96) (hc : mi (x + 1) 13 = nI c) (hc14 : c ≤ 14) : Ok 218 2 99 fX6_text X [rf X x] S mi (TxP X S mi x c b len) := by
  refine Ok.go [some (rf X x), none] (by decide) (by simp [Value.category]) (Nat.le_of_ble_eq_true rfl) rfl ?_
  obtain ⟨k_x, ⟨r_x_now, t_now⟩, ⟨r_x_thought, t_thought⟩, ⟨r_x_image, t_image⟩, ⟨r_x_tape, t_tape⟩, ⟨r_x_sheets, k_x_sheets⟩, ⟨r_x_slots, k_x_slots⟩, ⟨r_x_waiting, k_x_waiting⟩, ⟨r_x_diff, k_x_diff⟩, a_sheets, a_slots⟩ := id hX
  have k_tp := t_tape.1
  have l1 := t_now.1.1
  have l5 := t_now.2.2.2.2.2.1.2.1
  have l52 := t_tape.1.1
  have l54 := t_tape.2.2.2.1
  have nx : x + 1 ≠ x + 52 := by omega
  refine mw_aload_n dX6_text_0 rfl ?_
  refine mw_getr dX6_text_1 fl_X6_25 rfl (by assumption) (by assumption) ?_
  refine mw_callV (g := fX3_readText) dX6_text_4 ml_X6_212 mfX3_readText (ok_X3_readText t_tape hB hl) (k_tp) rfl rfl (Nat.le_of_ble_eq_true rfl) ⟨by decide, by decide⟩ ⟨by decide, by decide⟩ (fun r S2 mi2 hp => ?_)
  rcases hp with ⟨ft, g1, rfl, g3, g4, g5⟩ | ⟨key, P, g1, g2, g3, rfl, g5, g6, g7, g8, g9, g10⟩
  · rw [g3]
    have e2 : m_up mi2 (x + 52) 1 0 (x + 52) 2 = nI ft := by rw [m_up_of (by decide)]; exact g4
    refine mw_astore_nN dX6_text_7 (by decide) ?_
    refine mw_aload_n dX6_text_8 rfl ?_
    refine mw_getr dX6_text_9 fl_X6_25 rfl k_x r_x_tape ?_
    refine mw_iconst (v := 0) dX6_text_12 (by decide) ?_
    refine mw_puti dX6_text_13 fl_X6_204 ft_3_1 rfl rfl rfl k_tp ?_
    refine mw_aload_nN dX6_text_16 rfl ?_
    refine mw_ifnonnullN dX6_text_17 ?_
    refine mw_bipush (v := (-100)) dX6_text_20 (by decide) ?_
    refine mw_aload_n dX6_text_22 rfl ?_
    refine mw_getr dX6_text_23 fl_X6_25 rfl k_x r_x_tape ?_
    refine mw_geti dX6_text_26 fl_X6_216 rfl k_tp ?_
    rw [e2]
    refine mw_isub dX6_text_29 ?_
    refine mw_goto (tgt := 41) dX6_text_30 (by decide) ?_
    exact mw_iret dX6_text_41 rfl (by decide) (by decide) (Or.inl ⟨ft, g1, rfl, rfl, m_up_at _ _ _ _, fun a h1 h2 => by rw [m_up_ne h1]; exact g5.1 a h1 h2⟩)
  have hX2 := nwt_as g5 hX
  have kx2 := hX2.1
  have rt2 := hX2.2.2.2.2.1.1
  have rn2 := hX2.2.1.1
  have tw2 := hX2.2.1.2
  have kt2 := hX2.2.2.2.2.1.2.1
  have hp2 : Kd S2 S.1 4 0 := g5.2.1
  have m0 : m_up mi2 (x + 52) 1 0 S.1 0 = nI key := by rw [m_up_ne (by omega)]; exact g6
  have m1 : m_up mi2 (x + 52) 1 0 S.1 1 = nI P.2.1.2.2 := by rw [m_up_ne (by omega)]; exact g7
  have m13 : m_up mi2 (x + 52) 1 0 (x + 1) 13 = nI c := by rw [m_up_ne nx, g9 (x + 1) l1 (by omega) (by omega)]; exact hc
  refine mw_astN 1 dX6_text_7 rfl (by decide) ?_
  refine mw_aload_n dX6_text_8 rfl ?_
  refine mw_getr dX6_text_9 fl_X6_25 rfl (kx2) (rt2) ?_
  refine mw_iconst (v := 0) dX6_text_12 (by decide) ?_
  refine mw_puti dX6_text_13 fl_X6_204 ft_3_1 rfl (rfl) rfl (kt2) ?_
  refine mw_aload_n dX6_text_16 rfl ?_
  refine mw_ifnonnull (tgt := 33) dX6_text_17 (by decide) ?_
  skip
  skip
  skip
  skip
  skip
  skip
  refine mw_aload_n dX6_text_33 rfl ?_
  refine mw_getr dX6_text_34 fl_X6_10 rfl (kx2) (rn2) ?_
  refine mw_aload_n dX6_text_37 rfl ?_
  refine mw_callV (g := fX5_addText) dX6_text_38 ml_X6_219 mfX5_addText (ok_X5_addText (p := S.1) (c := c) (key := key) tw2 hp2 m0 g2 m13 hc14) tw2.1 rfl rfl (Nat.le_of_ble_eq_true rfl) ⟨by decide, by decide⟩ ⟨by decide, by decide⟩ (fun r S3 m3 hp => ?_)
  rcases hp with ⟨c1, rfl, c3, c4⟩ | ⟨c1, rfl, c3, c4⟩
  · rw [c3, c4]
    exact mw_iret dX6_text_41 rfl (by decide) (by decide) (Or.inr ⟨key, P, S2, g1, g2, g3, g5, m0, m1, fun j hj => by rw [m_up_ne (by omega)]; exact g8 j hj, m_up_at _ _ _ _, Or.inl ⟨c1, rfl, rfl, fun a h1 h2 h3 => by rw [m_up_ne h2]; exact g9 a h1 h2 h3⟩⟩)
  rw [c3, c4]
  exact mw_iret dX6_text_41 rfl (by decide) (by decide) (Or.inr ⟨key, P, S2, g1, g2, g3, g5, by rw [m_up_ne (by omega), m_up_ne (by omega)]; exact m0, by rw [m_up_ne (by omega), m_up_ne (by omega)]; exact m1, fun j hj => by rw [m_up_ne (by omega), m_up_ne (by omega), m_up_ne (by omega)]; exact g8 j hj, by rw [m_up_ne (by omega), m_up_ne (by omega), m_up_at], Or.inr ⟨c1, rfl, rfl, by rw [m_up_row, m_up_ne (by omega), m_up_ne (by omega), g9 (x + 1) l1 (by omega) (by omega)], by rw [m_up_ne (by omega), m_up_row, m_up_ne (by omega), g9 (x + 1 + 5) l5 (by omega) (by omega)], fun a h1 h2 h3 h4 h5 => by rw [m_up_ne h4, m_up_ne h5, m_up_ne h2]; exact g9 a h1 h2 h3⟩⟩)
