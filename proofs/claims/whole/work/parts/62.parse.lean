/-! the reading of a text: recursive descent -/
def jlF (rd : Ps → Bool × Ps) (b : Nat → Int32) (len r : Nat) : Nat → Ps → Bool × Ps
  | 0, P => (true, P)
  | c + 1, P => if rnkI (sgn b len P) = nI r then (if (rd (adv b len P)).1 = true then jlF rd b len r c (adP (rd (adv b len P)).2 (-(sgn b len P))) else (false, (rd (adv b len P)).2)) else (true, P)
def mostN (r : Nat) : Nat := if r = 2 then 1 else 96
def ntU (P : Ps) (n : Nat) : Ps := (P.1, (P.2.1.1, n, P.2.1.2.2), P.2.2)
def opU (P : Ps) (n : Nat) : Ps := (P.1, (n, P.2.1.2), P.2.2)
def notF (b : Nat → Int32) (len : Nat) (rd : Ps → Bool × Ps) (P : Ps) : Bool × Ps := if 8 ≤ P.2.1.2.1 then (false, P) else (if (rd (adv b len (ntU P (P.2.1.2.1 + 1)))).1 = true then (true, adP (ntU (rd (adv b len (ntU P (P.2.1.2.1 + 1)))).2 ((rd (adv b len (ntU P (P.2.1.2.1 + 1)))).2.2.1.2.1 - 1)) (-33)) else (false, (rd (adv b len (ntU P (P.2.1.2.1 + 1)))).2))
def opnF (b : Nat → Int32) (len : Nat) (rd : Ps → Bool × Ps) (P : Ps) : Bool × Ps := if 8 ≤ P.2.1.1 then (false, P) else (if (rd (adv b len (opU P (P.2.1.1 + 1)))).1 = true ∧ sgn b len (rd (adv b len (opU P (P.2.1.1 + 1)))).2 = 41 then (true, adv b len (opU (rd (adv b len (opU P (P.2.1.1 + 1)))).2 ((rd (adv b len (opU P (P.2.1.1 + 1)))).2.2.1.1 - 1))) else (false, (rd (adv b len (opU P (P.2.1.1 + 1)))).2))
def pieceF (b : Nat → Int32) (len key : Nat) (rdE rdP : Ps → Bool × Ps) (P : Ps) : Bool × Ps := if P.1.2.2 = 2 then (if P.1.2.1 - P.1.1 ≤ 4 then (true, leafP b len P (numF b P.1.1 (P.1.2.1 - P.1.1))) else (false, P)) else if P.1.2.2 = 1 then (if nmH b len key P < 0 then (false, P) else (true, leafP b len P (-1 - nmH b len key P))) else if sgn b len P = 33 then notF b len rdP P else if sgn b len P = 40 then opnF b len rdE P else (false, P)
def par (b : Nat → Int32) (len key : Nat) : Nat → Nat → Ps → Bool × Ps
  | 0, _, P => (false, P)
  | f + 1, r, P => if r < 5 then (if (par b len key f (r + 1) P).1 = true then jlF (par b len key f (r + 1)) b len r (mostN r) (par b len key f (r + 1) P).2 else (false, (par b len key f (r + 1) P).2)) else pieceF b len key (par b len key f 0) (par b len key f 5) P
theorem par_5 {b : Nat → Int32} {len key f : Nat} {P : Ps} : par b len key (f + 1) 5 P = pieceF b len key (par b len key f 0) (par b len key f 5) P := by rw [par, if_neg (by decide)]
theorem par_r {b : Nat → Int32} {len key f r : Nat} {P : Ps} (h : r < 5) : par b len key (f + 1) r P = if (par b len key f (r + 1) P).1 = true then jlF (par b len key f (r + 1)) b len r (mostN r) (par b len key f (r + 1) P).2 else (false, (par b len key f (r + 1) P).2) := by rw [par, if_pos h]
/-- a word of letters begins with a letter -/
def tkW (b : Nat → Int32) (len : Nat) (P : Ps) : Prop := P.1.2.2 = 1 → srtN b len P.1.1 = 1
def kp (P Q : Ps) : Prop := Q.2.1.1 = P.2.1.1 ∧ Q.2.1.2.1 = P.2.1.2.1
theorem tkW_adv (b : Nat → Int32) (len : Nat) (P : Ps) : tkW b len (adv b len P) := by
  unfold tkW adv
  dsimp only
  generalize skB b len (len - P.1.2.1) P.1.2.1 = bg
  unfold advS
  split
  · intro h; simp at h
  · split
    · intro h; simp at h
    · dsimp only
      intro h
      split at h
      · omega
      · exact h
def rdOk (b : Nat → Int32) (len : Nat) (rd : Ps → Bool × Ps) : Prop := ∀ P, Pb len P → tkW b len P → Pb len (rd P).2 ∧ tkW b len (rd P).2 ∧ ((rd P).1 = true → kp P (rd P).2)
theorem jl_ok {b : Nat → Int32} {len r : Nat} {rd : Ps → Bool × Ps} (hrd : rdOk b len rd) : ∀ c, rdOk b len (jlF rd b len r c)
  | 0 => fun P h1 h2 => ⟨h1, h2, fun _ => ⟨rfl, rfl⟩⟩
  | c + 1 => fun P h1 h2 => by
    obtain ⟨g1, g2, g3⟩ := hrd (adv b len P) (pb_adv h1) (tkW_adv b len P)
    simp only [jlF]
    split
    · split
      · rename_i hh
        obtain ⟨k1, k2, k3⟩ := jl_ok hrd c (adP (rd (adv b len P)).2 (-(sgn b len P))) (pb_adP g1) g2
        refine ⟨k1, k2, fun q => ?_⟩
        have a1 := k3 q
        have a2 := g3 hh
        exact ⟨a1.1.trans a2.1, a1.2.trans a2.2⟩
      · exact ⟨g1, g2, fun q => absurd q (by simp)⟩
    · exact ⟨h1, h2, fun _ => ⟨rfl, rfl⟩⟩
theorem pb_nt {len n : Nat} {P : Ps} (h : Pb len P) (hn : n ≤ 8) : Pb len (ntU P n) := ⟨h.1, h.2.1, h.2.2.1, h.2.2.2.1, hn, h.2.2.2.2.2.1, h.2.2.2.2.2.2⟩
theorem pb_op {len n : Nat} {P : Ps} (h : Pb len P) (hn : n ≤ 8) : Pb len (opU P n) := ⟨h.1, h.2.1, h.2.2.1, hn, h.2.2.2.2.1, h.2.2.2.2.2.1, h.2.2.2.2.2.2⟩
theorem pb_leaf {b : Nat → Int32} {len : Nat} {P : Ps} {v : Int32} (h : Pb len P) : Pb len (leafP b len P v) := by
  have g := pb_adP (v := v) h
  exact pb_adv (P := (P.1, (P.2.1.1, P.2.1.2.1, P.2.1.2.2 + 1), adC P.2.2 v)) ⟨g.1, g.2.1, g.2.2.1, g.2.2.2.1, g.2.2.2.2.1, g.2.2.2.2.2.1, g.2.2.2.2.2.2⟩
theorem not_ok {b : Nat → Int32} {len : Nat} {rd : Ps → Bool × Ps} (hrd : rdOk b len rd) : rdOk b len (notF b len rd) := by
  intro P h1 h2
  unfold notF
  split
  · exact ⟨h1, h2, fun q => absurd q (by simp)⟩
  · obtain ⟨g1, g2, g3⟩ := hrd (adv b len (ntU P (P.2.1.2.1 + 1))) (pb_adv (pb_nt h1 (by omega))) (tkW_adv b len _)
    split
    · rename_i hh
      have a := g3 hh
      have a2 : (rd (adv b len (ntU P (P.2.1.2.1 + 1)))).2.2.1.2.1 = P.2.1.2.1 + 1 := a.2
      have a1 : (rd (adv b len (ntU P (P.2.1.2.1 + 1)))).2.2.1.1 = P.2.1.1 := a.1
      refine ⟨pb_adP (pb_nt g1 (by omega)), g2, fun _ => ⟨a1, ?_⟩⟩
      show (rd (adv b len (ntU P (P.2.1.2.1 + 1)))).2.2.1.2.1 - 1 = _
      omega
    · exact ⟨g1, g2, fun q => absurd q (by simp)⟩
theorem opn_ok {b : Nat → Int32} {len : Nat} {rd : Ps → Bool × Ps} (hrd : rdOk b len rd) : rdOk b len (opnF b len rd) := by
  intro P h1 h2
  unfold opnF
  split
  · exact ⟨h1, h2, fun q => absurd q (by simp)⟩
  · obtain ⟨g1, g2, g3⟩ := hrd (adv b len (opU P (P.2.1.1 + 1))) (pb_adv (pb_op h1 (by omega))) (tkW_adv b len _)
    split
    · rename_i hh
      have a := g3 hh.1
      have a2 : (rd (adv b len (opU P (P.2.1.1 + 1)))).2.2.1.2.1 = P.2.1.2.1 := a.2
      have a1 : (rd (adv b len (opU P (P.2.1.1 + 1)))).2.2.1.1 = P.2.1.1 + 1 := a.1
      refine ⟨pb_adv (pb_op g1 (by omega)), tkW_adv b len _, fun _ => ⟨?_, a2⟩⟩
      show (rd (adv b len (opU P (P.2.1.1 + 1)))).2.2.1.1 - 1 = _
      omega
    · exact ⟨g1, g2, fun q => absurd q (by simp)⟩
theorem piece_ok {b : Nat → Int32} {len key : Nat} {rdE rdP : Ps → Bool × Ps} (hE : rdOk b len rdE) (hP : rdOk b len rdP) : rdOk b len (pieceF b len key rdE rdP) := by
  intro P h1 h2
  unfold pieceF
  split
  · split
    · exact ⟨pb_leaf h1, tkW_adv b len _, fun _ => ⟨rfl, rfl⟩⟩
    · exact ⟨h1, h2, fun q => absurd q (by simp)⟩
  · split
    · split
      · exact ⟨h1, h2, fun q => absurd q (by simp)⟩
      · exact ⟨pb_leaf h1, tkW_adv b len _, fun _ => ⟨rfl, rfl⟩⟩
    · split
      · exact not_ok hP P h1 h2
      · split
        · exact opn_ok hE P h1 h2
        · exact ⟨h1, h2, fun q => absurd q (by simp)⟩
theorem par_ok {b : Nat → Int32} {len key : Nat} : ∀ f r, rdOk b len (par b len key f r)
  | 0, r => fun P h1 h2 => ⟨h1, h2, fun q => absurd q (by simp [par])⟩
  | f + 1, r => fun P h1 h2 => by
    simp only [par]
    split
    · obtain ⟨g1, g2, g3⟩ := par_ok (key := key) f (r + 1) P h1 h2
      split
      · rename_i hh
        obtain ⟨k1, k2, k3⟩ := jl_ok (r := r) (par_ok (key := key) f (r + 1)) (mostN r) _ g1 g2
        exact ⟨k1, k2, fun q => ⟨(k3 q).1.trans (g3 hh).1, (k3 q).2.trans (g3 hh).2⟩⟩
      · exact ⟨g1, g2, fun q => absurd q (by simp)⟩
    · exact piece_ok (par_ok f 0) (par_ok f 5) P h1 h2
def muP (r : Nat) (P : Ps) : Nat := (5 - r) + 7 * (8 - P.2.1.1) + (8 - P.2.1.2.1)
theorem muP_kp {r : Nat} {P Q : Ps} (h : kp P Q) : muP r Q = muP r P := by unfold muP; rw [h.1, h.2]
def RJp (X : Xb) (b : Nat → Int32) (len key f : Nat) : Prop := ∀ (S : Sg) (mi : Mem) (q : Nat) (P : Ps) (r : Nat), TpA S q → TpB mi q b len → TpS mi q P → Pb len P → tkW b len P → mi q 5 = nI key → r ≤ 5 → muP r P < f → Ok (3 * f + 6) 0 0 fX3_readJoined X [rf X q, .int (nI r)] S mi (PB S q mi (par b len key f r P))
def RPp (X : Xb) (b : Nat → Int32) (len key f : Nat) : Prop := ∀ (S : Sg) (mi : Mem) (q : Nat) (P : Ps), TpA S q → TpB mi q b len → TpS mi q P → Pb len P → tkW b len P → mi q 5 = nI key → muP 5 P < f → Ok (3 * f + 5) 0 0 fX3_readPiece X [rf X q] S mi (PB S q mi (par b len key f 5 P))
theorem dX3_readNot_0 : decode fX3_readNot.2.1 0 = .ok (.aload_n 0, 1) := by decide +kernel
theorem dX3_readNot_1 : decode fX3_readNot.2.1 1 = .ok (.getfield 31, 3) := by decide +kernel
theorem dX3_readNot_4 : decode fX3_readNot.2.1 4 = .ok (.bipush 8, 2) := by decide +kernel
theorem dX3_readNot_6 : decode fX3_readNot.2.1 6 = .ok (.if_icmp .lt 5, 3) := by decide +kernel
theorem dX3_readNot_9 : decode fX3_readNot.2.1 9 = .ok (.iconst 0, 1) := by decide +kernel
theorem dX3_readNot_10 : decode fX3_readNot.2.1 10 = .ok (.ireturn, 1) := by decide +kernel
theorem dX3_readNot_11 : decode fX3_readNot.2.1 11 = .ok (.aload_n 0, 1) := by decide +kernel
theorem dX3_readNot_12 : decode fX3_readNot.2.1 12 = .ok (.dup, 1) := by decide +kernel
theorem dX3_readNot_13 : decode fX3_readNot.2.1 13 = .ok (.getfield 31, 3) := by decide +kernel
theorem dX3_readNot_16 : decode fX3_readNot.2.1 16 = .ok (.iconst 1, 1) := by decide +kernel
theorem dX3_readNot_17 : decode fX3_readNot.2.1 17 = .ok (.iadd, 1) := by decide +kernel
theorem dX3_readNot_18 : decode fX3_readNot.2.1 18 = .ok (.putfield 31, 3) := by decide +kernel
theorem dX3_readNot_21 : decode fX3_readNot.2.1 21 = .ok (.aload_n 0, 1) := by decide +kernel
theorem dX3_readNot_22 : decode fX3_readNot.2.1 22 = .ok (.invokevirtual 40, 3) := by decide +kernel
theorem dX3_readNot_25 : decode fX3_readNot.2.1 25 = .ok (.aload_n 0, 1) := by decide +kernel
theorem dX3_readNot_26 : decode fX3_readNot.2.1 26 = .ok (.invokevirtual 84, 3) := by decide +kernel
theorem dX3_readNot_29 : decode fX3_readNot.2.1 29 = .ok (.ifCond .ne 5, 3) := by decide +kernel
theorem dX3_readNot_32 : decode fX3_readNot.2.1 32 = .ok (.iconst 0, 1) := by decide +kernel
theorem dX3_readNot_33 : decode fX3_readNot.2.1 33 = .ok (.ireturn, 1) := by decide +kernel
theorem dX3_readNot_34 : decode fX3_readNot.2.1 34 = .ok (.aload_n 0, 1) := by decide +kernel
theorem dX3_readNot_35 : decode fX3_readNot.2.1 35 = .ok (.dup, 1) := by decide +kernel
theorem dX3_readNot_36 : decode fX3_readNot.2.1 36 = .ok (.getfield 31, 3) := by decide +kernel
theorem dX3_readNot_39 : decode fX3_readNot.2.1 39 = .ok (.iconst 1, 1) := by decide +kernel
theorem dX3_readNot_40 : decode fX3_readNot.2.1 40 = .ok (.isub, 1) := by decide +kernel
theorem dX3_readNot_41 : decode fX3_readNot.2.1 41 = .ok (.putfield 31, 3) := by decide +kernel
theorem dX3_readNot_44 : decode fX3_readNot.2.1 44 = .ok (.aload_n 0, 1) := by decide +kernel
theorem dX3_readNot_45 : decode fX3_readNot.2.1 45 = .ok (.bipush (-33), 2) := by decide +kernel
theorem dX3_readNot_47 : decode fX3_readNot.2.1 47 = .ok (.invokevirtual 94, 3) := by decide +kernel
theorem dX3_readNot_50 : decode fX3_readNot.2.1 50 = .ok (.iconst 1, 1) := by decide +kernel
theorem dX3_readNot_51 : decode fX3_readNot.2.1 51 = .ok (.ireturn, 1) := by decide +kernel
set_option maxRecDepth 100000 in
set_option maxHeartbeats 4000000 in
theorem ok_X3_readNot {X : Xb} {S : Sg} {mi : Mem} {q len key f : Nat} {b : Nat → Int32} {P : Ps} (hr : RPp X b len key f) (hT : TpA S q) (hB : TpB mi q b len) (hS : TpS mi q P) (hP : Pb len P) (hk : mi q 5 = nI key) (hmu : muP 5 P < f + 1) : Ok (3 * f + 6) 0 0 fX3_readNot X [rf X q] S mi (PB S q mi (notF b len (par b len key f 5) P)) := by
  refine Ok.go [some (rf X q)] (by decide) (by simp [Value.category]) (Nat.le_of_ble_eq_true rfl) rfl ?_
  obtain ⟨k_q, ⟨r_q_bytes, k_q_bytes⟩, ⟨r_q_steps, k_q_steps⟩⟩ := id hT
  have e7 : mi q 7 = nI P.2.1.2.1 := hS.2.2.2.2.1
  have b7 : P.2.1.2.1 ≤ 8 := hP.2.2.2.2.1
  have b6 : P.2.1.1 ≤ 8 := hP.2.2.2.1
  refine mw_aload_n dX3_readNot_0 rfl ?_
  refine mw_geti dX3_readNot_1 fl_X3_31 rfl (by assumption) ?_
  rw [e7]
  refine mw_bipush (v := 8) dX3_readNot_4 (by decide) ?_
  refine mw_icmp_lt (tgt := 11) dX3_readNot_6 (by decide) (fun h6 => ?_) (fun h6 => ?_)
  · skip
    have n8 : P.2.1.2.1 < 8 := (nI_ltI (b := 8) (by omega) (by decide)).mp h6
    have n8' : ¬ 8 ≤ P.2.1.2.1 := by omega
    refine mw_aload_n dX3_readNot_11 rfl ?_
    refine mw_dup dX3_readNot_12 rfl ?_
    refine mw_geti dX3_readNot_13 fl_X3_31 rfl (by assumption) ?_
    rw [e7]
    refine mw_iconst (v := 1) dX3_readNot_16 (by decide) ?_
    refine mw_iadd dX3_readNot_17 ?_
    rw [nI_1]
    refine mw_puti dX3_readNot_18 fl_X3_31 ft_3_7 rfl (rfl) rfl (by assumption) ?_
    have h1 : TpS (m_up mi q 7 (nI (P.2.1.2.1 + 1))) q (ntU P (P.2.1.2.1 + 1)) := hS.u7
    have f1 : FrP q mi (m_up mi q 7 (nI (P.2.1.2.1 + 1))) := (FrP.rf _ _).up (by decide) (by decide)
    generalize m_up mi q 7 (nI (P.2.1.2.1 + 1)) = m1 at h1 f1
    refine mw_aload_n dX3_readNot_21 rfl ?_
    refine mw_callV (g := fX3_advance) dX3_readNot_22 ml_X3_40 mfX3_advance (ok_X3_advance hT (hB.fr f1) h1 (pb_nt hP (by omega))) k_q rfl rfl (Nat.le_of_ble_eq_true rfl) ⟨by dsimp only [rmOf]; omega, by dsimp only [rmOf]; omega⟩ ⟨by dsimp only [rmOf]; omega, by dsimp only [rmOf]; omega⟩ (fun r S2 m2 hp => ?_)
    obtain ⟨rfl, e1, h2, f2⟩ := hp
    rw [e1]
    have f12 := f1.tr f2
    have hp1 : Pb len (adv b len (ntU P (P.2.1.2.1 + 1))) := pb_adv (pb_nt hP (by omega))
    have gk := par_ok (key := key) f 5 (adv b len (ntU P (P.2.1.2.1 + 1))) hp1 (tkW_adv b len _)
    refine mw_aload_n dX3_readNot_25 rfl ?_
    refine mw_callV (g := fX3_readPiece) dX3_readNot_26 ml_X3_84 mfX3_readPiece (hr S m2 q (adv b len (ntU P (P.2.1.2.1 + 1))) hT (hB.fr f12) h2 hp1 (tkW_adv b len _) (f12.2.2.trans hk) (by show muP 5 (ntU P (P.2.1.2.1 + 1)) < f; unfold muP at hmu ⊢; dsimp only [ntU]; omega)) k_q rfl rfl (Nat.le_of_ble_eq_true rfl) ⟨by dsimp only [rmOf]; omega, by dsimp only [rmOf]; omega⟩ ⟨by dsimp only [rmOf]; omega, by dsimp only [rmOf]; omega⟩ (fun r S3 m3 hp => ?_)
    obtain ⟨rfl, e2, h3, f3⟩ := hp
    rw [e2]
    have f13 := f12.tr f3
    refine mw_if_neB (tgt := 34) dX3_readNot_29 (by decide) (fun h29 => ?_) (fun h29 => ?_)
    · skip
      have a2 : (par b len key f 5 (adv b len (ntU P (P.2.1.2.1 + 1)))).2.2.1.2.1 = P.2.1.2.1 + 1 := (gk.2.2 h29).2
      have e73 : m3 q 7 = nI (P.2.1.2.1 + 1) := by rw [h3.2.2.2.2.1, a2]
      refine mw_aload_n dX3_readNot_34 rfl ?_
      refine mw_dup dX3_readNot_35 rfl ?_
      refine mw_geti dX3_readNot_36 fl_X3_31 rfl k_q ?_
      rw [e73]
      refine mw_iconst (v := 1) dX3_readNot_39 (by decide) ?_
      refine mw_isub dX3_readNot_40 ?_
      rw [nI_pred]
      refine mw_puti dX3_readNot_41 fl_X3_31 ft_3_7 rfl rfl rfl k_q ?_
      have h4 : TpS (m_up m3 q 7 (nI P.2.1.2.1)) q (ntU (par b len key f 5 (adv b len (ntU P (P.2.1.2.1 + 1)))).2 ((par b len key f 5 (adv b len (ntU P (P.2.1.2.1 + 1)))).2.2.1.2.1 - 1)) := by rw [a2]; exact h3.u7
      have f4 : FrP q mi (m_up m3 q 7 (nI P.2.1.2.1)) := f13.up (by decide) (by decide)
      refine mw_aload_n dX3_readNot_44 rfl ?_
      refine mw_bipush (v := -33) dX3_readNot_45 (by decide) ?_
      refine mw_callV (g := fX3_addStep) dX3_readNot_47 ml_X3_94 mfX3_addStep (ok_X3_addStep (len := len) hT h4 (pb_nt gk.1 (by omega))) k_q rfl rfl (Nat.le_of_ble_eq_true rfl) ⟨by dsimp only [rmOf]; omega, by dsimp only [rmOf]; omega⟩ ⟨by dsimp only [rmOf]; omega, by dsimp only [rmOf]; omega⟩ (fun r S5 m5 hp => ?_)
      obtain ⟨rfl, e5, h5, f5⟩ := hp
      rw [e5]
      refine mw_iconst (v := 1) dX3_readNot_50 (by decide) ?_
      exact mw_bret dX3_readNot_51 rfl (Or.inr rfl) (by decide) (by decide) (by rw [notF, if_neg n8', if_pos h29]; exact ⟨rfl, rfl, h5, f4.tr f5⟩)
    · skip
      refine mw_iconst (v := 0) dX3_readNot_32 (by decide) ?_
      exact mw_bret dX3_readNot_33 rfl (Or.inl rfl) (by decide) (by decide) (by rw [notF, if_neg n8', if_neg h29]; exact ⟨rfl, rfl, h3, f13⟩)
  · skip
    refine mw_iconst (v := 0) dX3_readNot_9 (by decide) ?_
    exact mw_bret dX3_readNot_10 rfl (by first | exact Or.inl rfl | exact Or.inr rfl | exact b2i_01) (by decide) (by decide) (by rw [notF, if_pos (by rcases Nat.lt_or_ge P.2.1.2.1 8 with g | g; exact absurd (nI_lt (b := 8) g (by decide)) h6; exact g)]; exact ⟨rfl, rfl, hS, FrP.rf _ _⟩)
theorem dX3_readOpen_0 : decode fX3_readOpen.2.1 0 = .ok (.aload_n 0, 1) := by decide +kernel
theorem dX3_readOpen_1 : decode fX3_readOpen.2.1 1 = .ok (.getfield 28, 3) := by decide +kernel
theorem dX3_readOpen_4 : decode fX3_readOpen.2.1 4 = .ok (.bipush 8, 2) := by decide +kernel
theorem dX3_readOpen_6 : decode fX3_readOpen.2.1 6 = .ok (.if_icmp .lt 5, 3) := by decide +kernel
theorem dX3_readOpen_9 : decode fX3_readOpen.2.1 9 = .ok (.iconst 0, 1) := by decide +kernel
theorem dX3_readOpen_10 : decode fX3_readOpen.2.1 10 = .ok (.ireturn, 1) := by decide +kernel
theorem dX3_readOpen_11 : decode fX3_readOpen.2.1 11 = .ok (.aload_n 0, 1) := by decide +kernel
theorem dX3_readOpen_12 : decode fX3_readOpen.2.1 12 = .ok (.dup, 1) := by decide +kernel
theorem dX3_readOpen_13 : decode fX3_readOpen.2.1 13 = .ok (.getfield 28, 3) := by decide +kernel
theorem dX3_readOpen_16 : decode fX3_readOpen.2.1 16 = .ok (.iconst 1, 1) := by decide +kernel
theorem dX3_readOpen_17 : decode fX3_readOpen.2.1 17 = .ok (.iadd, 1) := by decide +kernel
theorem dX3_readOpen_18 : decode fX3_readOpen.2.1 18 = .ok (.putfield 28, 3) := by decide +kernel
theorem dX3_readOpen_21 : decode fX3_readOpen.2.1 21 = .ok (.aload_n 0, 1) := by decide +kernel
theorem dX3_readOpen_22 : decode fX3_readOpen.2.1 22 = .ok (.invokevirtual 40, 3) := by decide +kernel
theorem dX3_readOpen_25 : decode fX3_readOpen.2.1 25 = .ok (.aload_n 0, 1) := by decide +kernel
theorem dX3_readOpen_26 : decode fX3_readOpen.2.1 26 = .ok (.iconst 0, 1) := by decide +kernel
theorem dX3_readOpen_27 : decode fX3_readOpen.2.1 27 = .ok (.invokevirtual 50, 3) := by decide +kernel
theorem dX3_readOpen_30 : decode fX3_readOpen.2.1 30 = .ok (.ifCond .eq 12, 3) := by decide +kernel
theorem dX3_readOpen_33 : decode fX3_readOpen.2.1 33 = .ok (.aload_n 0, 1) := by decide +kernel
theorem dX3_readOpen_34 : decode fX3_readOpen.2.1 34 = .ok (.invokevirtual 88, 3) := by decide +kernel
theorem dX3_readOpen_37 : decode fX3_readOpen.2.1 37 = .ok (.bipush 41, 2) := by decide +kernel
theorem dX3_readOpen_39 : decode fX3_readOpen.2.1 39 = .ok (.if_icmp .eq 5, 3) := by decide +kernel
theorem dX3_readOpen_42 : decode fX3_readOpen.2.1 42 = .ok (.iconst 0, 1) := by decide +kernel
theorem dX3_readOpen_43 : decode fX3_readOpen.2.1 43 = .ok (.ireturn, 1) := by decide +kernel
theorem dX3_readOpen_44 : decode fX3_readOpen.2.1 44 = .ok (.aload_n 0, 1) := by decide +kernel
theorem dX3_readOpen_45 : decode fX3_readOpen.2.1 45 = .ok (.dup, 1) := by decide +kernel
theorem dX3_readOpen_46 : decode fX3_readOpen.2.1 46 = .ok (.getfield 28, 3) := by decide +kernel
theorem dX3_readOpen_49 : decode fX3_readOpen.2.1 49 = .ok (.iconst 1, 1) := by decide +kernel
theorem dX3_readOpen_50 : decode fX3_readOpen.2.1 50 = .ok (.isub, 1) := by decide +kernel
theorem dX3_readOpen_51 : decode fX3_readOpen.2.1 51 = .ok (.putfield 28, 3) := by decide +kernel
theorem dX3_readOpen_54 : decode fX3_readOpen.2.1 54 = .ok (.aload_n 0, 1) := by decide +kernel
theorem dX3_readOpen_55 : decode fX3_readOpen.2.1 55 = .ok (.invokevirtual 40, 3) := by decide +kernel
theorem dX3_readOpen_58 : decode fX3_readOpen.2.1 58 = .ok (.iconst 1, 1) := by decide +kernel
theorem dX3_readOpen_59 : decode fX3_readOpen.2.1 59 = .ok (.ireturn, 1) := by decide +kernel
set_option maxRecDepth 100000 in
set_option maxHeartbeats 4000000 in
theorem ok_X3_readOpen {X : Xb} {S : Sg} {mi : Mem} {q len key f : Nat} {b : Nat → Int32} {P : Ps} (hr : RJp X b len key f) (hT : TpA S q) (hB : TpB mi q b len) (hS : TpS mi q P) (hP : Pb len P) (hk : mi q 5 = nI key) (hmu : muP 5 P < f + 1) : Ok (3 * f + 7) 0 0 fX3_readOpen X [rf X q] S mi (PB S q mi (opnF b len (par b len key f 0) P)) := by
  refine Ok.go [some (rf X q)] (by decide) (by simp [Value.category]) (Nat.le_of_ble_eq_true rfl) rfl ?_
  obtain ⟨k_q, ⟨r_q_bytes, k_q_bytes⟩, ⟨r_q_steps, k_q_steps⟩⟩ := id hT
  have e6 : mi q 6 = nI P.2.1.1 := hS.2.2.2.1
  have b7 : P.2.1.2.1 ≤ 8 := hP.2.2.2.2.1
  have b6 : P.2.1.1 ≤ 8 := hP.2.2.2.1
  refine mw_aload_n dX3_readOpen_0 rfl ?_
  refine mw_geti dX3_readOpen_1 fl_X3_28 rfl (by assumption) ?_
  rw [e6]
  refine mw_bipush (v := 8) dX3_readOpen_4 (by decide) ?_
  refine mw_icmp_lt (tgt := 11) dX3_readOpen_6 (by decide) (fun h6 => ?_) (fun h6 => ?_)
  · skip
    have n8 : P.2.1.1 < 8 := (nI_ltI (b := 8) (by omega) (by decide)).mp h6
    have n8' : ¬ 8 ≤ P.2.1.1 := by omega
    refine mw_aload_n dX3_readOpen_11 rfl ?_
    refine mw_dup dX3_readOpen_12 rfl ?_
    refine mw_geti dX3_readOpen_13 fl_X3_28 rfl (by assumption) ?_
    rw [e6]
    refine mw_iconst (v := 1) dX3_readOpen_16 (by decide) ?_
    refine mw_iadd dX3_readOpen_17 ?_
    rw [nI_1]
    refine mw_puti dX3_readOpen_18 fl_X3_28 ft_3_6 rfl (rfl) rfl (by assumption) ?_
    have h1 : TpS (m_up mi q 6 (nI (P.2.1.1 + 1))) q (opU P (P.2.1.1 + 1)) := hS.u6
    have f1 : FrP q mi (m_up mi q 6 (nI (P.2.1.1 + 1))) := (FrP.rf _ _).up (by decide) (by decide)
    generalize m_up mi q 6 (nI (P.2.1.1 + 1)) = m1 at h1 f1
    refine mw_aload_n dX3_readOpen_21 rfl ?_
    refine mw_callV (g := fX3_advance) dX3_readOpen_22 ml_X3_40 mfX3_advance (ok_X3_advance hT (hB.fr f1) h1 (pb_op hP (by omega))) k_q rfl rfl (Nat.le_of_ble_eq_true rfl) ⟨by dsimp only [rmOf]; omega, by dsimp only [rmOf]; omega⟩ ⟨by dsimp only [rmOf]; omega, by dsimp only [rmOf]; omega⟩ (fun r S2 m2 hp => ?_)
    obtain ⟨rfl, e1, h2, f2⟩ := hp
    rw [e1]
    have f12 := f1.tr f2
    have hp1 : Pb len (adv b len (opU P (P.2.1.1 + 1))) := pb_adv (pb_op hP (by omega))
    have gk := par_ok (key := key) f 0 (adv b len (opU P (P.2.1.1 + 1))) hp1 (tkW_adv b len _)
    refine mw_aload_n dX3_readOpen_25 rfl ?_
    refine mw_iconst (v := 0) dX3_readOpen_26 (by decide) ?_
    refine mw_callV (g := fX3_readJoined) dX3_readOpen_27 ml_X3_50 mfX3_readJoined (hr S m2 q (adv b len (opU P (P.2.1.1 + 1))) 0 hT (hB.fr f12) h2 hp1 (tkW_adv b len _) (f12.2.2.trans hk) (by decide) (by show muP 0 (opU P (P.2.1.1 + 1)) < f; unfold muP at hmu ⊢; dsimp only [opU]; omega)) k_q rfl rfl (Nat.le_of_ble_eq_true rfl) ⟨by dsimp only [rmOf]; omega, by dsimp only [rmOf]; omega⟩ ⟨by dsimp only [rmOf]; omega, by dsimp only [rmOf]; omega⟩ (fun r S3 m3 hp => ?_)
    obtain ⟨rfl, e2, h3, f3⟩ := hp
    rw [e2]
    have f13 := f12.tr f3
    refine mw_if_eqB (tgt := 42) dX3_readOpen_30 (by decide) (fun h30 => ?_) (fun h30 => ?_)
    · skip
      refine mw_iconst (v := 0) dX3_readOpen_42 (by decide) ?_
      exact mw_bret dX3_readOpen_43 rfl (Or.inl rfl) (by decide) (by decide) (by rw [opnF, if_neg n8', if_neg (fun g => h30 g.1)]; exact ⟨rfl, rfl, h3, f13⟩)
    refine mw_aload_n dX3_readOpen_33 rfl ?_
    refine mw_cVI (g := fX3_signHere) dX3_readOpen_34 ml_X3_88 mfX3_signHere (ok_X3_signHere hT (hB.fr f13) h3 gk.1) (k_q) rfl rfl (Nat.le_of_ble_eq_true rfl) ⟨by dsimp only [rmOf]; omega, by dsimp only [rmOf]; omega⟩ ⟨by dsimp only [rmOf]; omega, by dsimp only [rmOf]; omega⟩ ?_
    refine mw_bipush (v := 41) dX3_readOpen_37 (by decide) ?_
    refine mw_icmp_eq (tgt := 44) dX3_readOpen_39 (by decide) (fun h39 => ?_) (fun h39 => ?_)
    · skip
      have a1 : (par b len key f 0 (adv b len (opU P (P.2.1.1 + 1)))).2.2.1.1 = P.2.1.1 + 1 := (gk.2.2 h30).1
      have e63 : m3 q 6 = nI (P.2.1.1 + 1) := by rw [h3.2.2.2.1, a1]
      refine mw_aload_n dX3_readOpen_44 rfl ?_
      refine mw_dup dX3_readOpen_45 rfl ?_
      refine mw_geti dX3_readOpen_46 fl_X3_28 rfl (by assumption) ?_
      rw [e63]
      refine mw_iconst (v := 1) dX3_readOpen_49 (by decide) ?_
      refine mw_isub dX3_readOpen_50 ?_
      rw [nI_pred]
      refine mw_puti dX3_readOpen_51 fl_X3_28 ft_3_6 rfl (rfl) rfl (by assumption) ?_
      have h4 : TpS (m_up m3 q 6 (nI P.2.1.1)) q (opU (par b len key f 0 (adv b len (opU P (P.2.1.1 + 1)))).2 ((par b len key f 0 (adv b len (opU P (P.2.1.1 + 1)))).2.2.1.1 - 1)) := by rw [a1]; exact h3.u6
      have f4 : FrP q mi (m_up m3 q 6 (nI P.2.1.1)) := f13.up (by decide) (by decide)
      generalize m_up m3 q 6 (nI P.2.1.1) = m4 at h4 f4
      refine mw_aload_n dX3_readOpen_54 rfl ?_
      refine mw_callV (g := fX3_advance) dX3_readOpen_55 ml_X3_40 mfX3_advance (ok_X3_advance hT (hB.fr f4) h4 (pb_op gk.1 (by omega))) k_q rfl rfl (Nat.le_of_ble_eq_true rfl) ⟨by dsimp only [rmOf]; omega, by dsimp only [rmOf]; omega⟩ ⟨by dsimp only [rmOf]; omega, by dsimp only [rmOf]; omega⟩ (fun r S5 m5 hp => ?_)
      obtain ⟨rfl, e5, h5, f5⟩ := hp
      rw [e5]
      refine mw_iconst (v := 1) dX3_readOpen_58 (by decide) ?_
      exact mw_bret dX3_readOpen_59 rfl (by first | exact Or.inl rfl | exact Or.inr rfl | exact b2i_01) (by decide) (by decide) (by rw [opnF, if_neg n8', if_pos (And.intro h30 h39)]; exact ⟨rfl, rfl, h5, f4.tr f5⟩)
    · skip
      refine mw_iconst (v := 0) dX3_readOpen_42 (by decide) ?_
      exact mw_bret dX3_readOpen_43 rfl (by first | exact Or.inl rfl | exact Or.inr rfl | exact b2i_01) (by decide) (by decide) (by rw [opnF, if_neg n8', if_neg (fun g => h39 g.2)]; exact ⟨rfl, rfl, h3, f13⟩)
  · skip
    refine mw_iconst (v := 0) dX3_readOpen_9 (by decide) ?_
    exact mw_bret dX3_readOpen_10 rfl (by first | exact Or.inl rfl | exact Or.inr rfl | exact b2i_01) (by decide) (by decide) (by rw [opnF, if_pos (by rcases Nat.lt_or_ge P.2.1.1 8 with g | g; exact absurd (nI_lt (b := 8) g (by decide)) h6; exact g)]; exact ⟨rfl, rfl, hS, FrP.rf _ _⟩)
