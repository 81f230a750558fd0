/-! the best choice -/
def bestC (f : Nat → Option Int32) : Nat → Int32 × Int32
  | 0 => (NONEi, NONEi)
  | v + 1 => match f v with
    | none => bestC f v
    | some tk => if (bestC f v).2 < tk then (nI v, tk) else bestC f v
def chT (lw : LawT) (A : Nat → Int32) (n : Nat) (c : Int32) (a q : Nat) (v : Nat) : Option Int32 := if chB c (nI v) A = true then some (cHours lw n (chF c a (nI v) A) q 3) else none
def chN (c : Int32) : Nat := if c = 2 then 6 else 24
def sBest (lw : LawT) (A : Nat → Int32) (n : Nat) (c : Int32) (a q : Nat) (w : Int32) : Int32 := if w = 0 then (bestC (chT lw A n c a q) (chN c)).1 else (bestC (chT lw A n c a q) (chN c)).2
theorem chF_1 {c v : Int32} {a : Nat} {B : Nat → Int32} : chF c a v B 1 = B 1 := by
  unfold chF
  split
  · simp [upd]
  · split
    · simp only [upd, show (1 : Nat) ≠ 26 + 5 * a + 1 by omega, if_false]
    · simp only [upd, show (1 : Nat) ≠ 26 + 5 * a by omega, if_false]
theorem cpS_idem {S : Sg} {t u : Nat} (h : t ≠ u) : cpS (cpS S t u 14) t u 14 = cpS S t u 14 := by
  have e : cpR (cpR S.2.2 t u 14) t u 14 = cpR S.2.2 t u 14 := by
    funext a j
    simp only [cpR]
    by_cases c : a = t + 4 ∧ j < 14
    · rw [if_pos c, if_neg (by omega), if_pos c]
    · rw [if_neg c]
  show (S.1, S.2.1, cpR (cpR S.2.2 t u 14) t u 14) = _
  rw [e]
theorem tx_keep {S : Sg} {mi m : Mem} {t u j : Nat} (hT : TwA S t) (hut : u ≠ t) (hu5 : u + 5 < t ∨ t + 17 ≤ u + 5) (hx : TxOk S mi u j) (hm : ∀ a, a < t ∨ t + 17 ≤ a → m a = mi a) : TxOk (cpS S t u 14) m u j ∧ lwC (cpS S t u 14) m u j = lwC S mi u j := by
  have n4 : Kd S (t + 4) 14 14 := hT.2.2.2.2.1.2
  have etx : txOf (cpS S t u 14) m u j = txOf S mi u j := by
    unfold txOf
    rw [hm (u + 5) hu5]
    show (if _ then cpR S.2.2 t u 14 (u + 4) _ else _) = _
    simp only [cpR, show u + 4 ≠ t + 4 by omega, false_and, if_false]
  have far : ∀ p len, TxA S p len → m (p + 1) = mi (p + 1) := fun p len h => hm _ (tx_out hT h)
  have tra : ∀ p len, TxA S p len → TxA (cpS S t u 14) p len := fun p len h => ⟨h.1, by
    have np : p ≠ t + 4 := Kd_ne h.1 n4 (by decide)
    show cpR S.2.2 t u 14 p 2 = _
    simp [cpR, np]; exact h.2.1, h.2.2.1, h.2.2.2⟩
  refine ⟨fun p hp => ?_, ?_⟩
  · rw [etx] at hp
    obtain ⟨len, h1, h2⟩ := hx p hp
    exact ⟨len, tra p len h1, by rw [far p len h1]; exact h2⟩
  · have e : ∀ p, txOf S mi u j = some p → m (p + 1) = mi (p + 1) := fun p hp => by
      obtain ⟨len, h1, -⟩ := hx p hp
      exact far p len h1
    unfold lwC
    rw [etx]
    generalize txOf S mi u j = q at e
    cases q with
    | none => rw [Option.map_none, Option.map_none]
    | some p => rw [Option.map_some, Option.map_some, e p rfl]
theorem TxR.cp {S : Sg} {t u : Nat} (h : TxR S u) (hut : u ≠ t) : TxR (cpS S t u 14) u := by
  intro i hi p hp
  have e : cpR S.2.2 t u 14 (u + 4) i = S.2.2 (u + 4) i := by simp only [cpR, show u + 4 ≠ t + 4 by omega, false_and, if_false]
  exact h i hi p (e.symm.trans hp)
theorem tx_same0 {S : Sg} {mi m : Mem} {u j : Nat} {t : Nat} (hT : TwA S t) (hu5 : u + 5 < t ∨ t + 17 ≤ u + 5) (hx : TxOk S mi u j) (hm : ∀ a, a < t ∨ t + 17 ≤ a → m a = mi a) : TxOk S m u j ∧ lwC S m u j = lwC S mi u j := by
  have etx : txOf S m u j = txOf S mi u j := by unfold txOf; rw [hm (u + 5) hu5]
  have far : ∀ p len, TxA S p len → m (p + 1) = mi (p + 1) := fun p len h => hm _ (tx_out hT h)
  refine ⟨fun p hp => ?_, ?_⟩
  · rw [etx] at hp
    obtain ⟨len, h1, h2⟩ := hx p hp
    exact ⟨len, h1, by rw [far p len h1]; exact h2⟩
  · have e : ∀ p, txOf S mi u j = some p → m (p + 1) = mi (p + 1) := fun p hp => by
      obtain ⟨len, h1, -⟩ := hx p hp
      exact far p len h1
    unfold lwC
    rw [etx]
    generalize txOf S mi u j = q at e
    cases q with
    | none => rw [Option.map_none, Option.map_none]
    | some p => rw [Option.map_some, Option.map_some, e p rfl]
theorem dX6_bestOf_0 : decode fX6_bestOf.2.1 0 = .ok (.ldc 182, 2) := by decide +kernel
theorem dX6_bestOf_2 : decode fX6_bestOf.2.1 2 = .ok (.istore 5, 2) := by decide +kernel
theorem dX6_bestOf_4 : decode fX6_bestOf.2.1 4 = .ok (.ldc 182, 2) := by decide +kernel
theorem dX6_bestOf_6 : decode fX6_bestOf.2.1 6 = .ok (.istore 6, 2) := by decide +kernel
theorem dX6_bestOf_8 : decode fX6_bestOf.2.1 8 = .ok (.iload_n 1, 1) := by decide +kernel
theorem dX6_bestOf_9 : decode fX6_bestOf.2.1 9 = .ok (.iconst 2, 1) := by decide +kernel
theorem dX6_bestOf_10 : decode fX6_bestOf.2.1 10 = .ok (.if_icmp .ne 8, 3) := by decide +kernel
theorem dX6_bestOf_13 : decode fX6_bestOf.2.1 13 = .ok (.bipush 6, 2) := by decide +kernel
theorem dX6_bestOf_15 : decode fX6_bestOf.2.1 15 = .ok (.goto 5, 3) := by decide +kernel
theorem dX6_bestOf_18 : decode fX6_bestOf.2.1 18 = .ok (.bipush 24, 2) := by decide +kernel
theorem dX6_bestOf_20 : decode fX6_bestOf.2.1 20 = .ok (.istore 7, 2) := by decide +kernel
theorem dX6_bestOf_22 : decode fX6_bestOf.2.1 22 = .ok (.iconst 0, 1) := by decide +kernel
theorem dX6_bestOf_23 : decode fX6_bestOf.2.1 23 = .ok (.istore 8, 2) := by decide +kernel
theorem dX6_bestOf_25 : decode fX6_bestOf.2.1 25 = .ok (.iload 8, 2) := by decide +kernel
theorem dX6_bestOf_27 : decode fX6_bestOf.2.1 27 = .ok (.iload 7, 2) := by decide +kernel
theorem dX6_bestOf_29 : decode fX6_bestOf.2.1 29 = .ok (.if_icmp .ge 81, 3) := by decide +kernel
theorem dX6_bestOf_32 : decode fX6_bestOf.2.1 32 = .ok (.aload_n 0, 1) := by decide +kernel
theorem dX6_bestOf_33 : decode fX6_bestOf.2.1 33 = .ok (.getfield 16, 3) := by decide +kernel
theorem dX6_bestOf_36 : decode fX6_bestOf.2.1 36 = .ok (.aload_n 0, 1) := by decide +kernel
theorem dX6_bestOf_37 : decode fX6_bestOf.2.1 37 = .ok (.getfield 10, 3) := by decide +kernel
theorem dX6_bestOf_40 : decode fX6_bestOf.2.1 40 = .ok (.invokevirtual 178, 3) := by decide +kernel
theorem dX6_bestOf_43 : decode fX6_bestOf.2.1 43 = .ok (.aload_n 0, 1) := by decide +kernel
theorem dX6_bestOf_44 : decode fX6_bestOf.2.1 44 = .ok (.getfield 16, 3) := by decide +kernel
theorem dX6_bestOf_47 : decode fX6_bestOf.2.1 47 = .ok (.iload_n 1, 1) := by decide +kernel
theorem dX6_bestOf_48 : decode fX6_bestOf.2.1 48 = .ok (.iload_n 2, 1) := by decide +kernel
theorem dX6_bestOf_49 : decode fX6_bestOf.2.1 49 = .ok (.iload 8, 2) := by decide +kernel
theorem dX6_bestOf_51 : decode fX6_bestOf.2.1 51 = .ok (.invokevirtual 307, 3) := by decide +kernel
theorem dX6_bestOf_54 : decode fX6_bestOf.2.1 54 = .ok (.ifCond .eq 50, 3) := by decide +kernel
theorem dX6_bestOf_57 : decode fX6_bestOf.2.1 57 = .ok (.iconst 0, 1) := by decide +kernel
theorem dX6_bestOf_58 : decode fX6_bestOf.2.1 58 = .ok (.istore 9, 2) := by decide +kernel
theorem dX6_bestOf_60 : decode fX6_bestOf.2.1 60 = .ok (.iload 9, 2) := by decide +kernel
theorem dX6_bestOf_62 : decode fX6_bestOf.2.1 62 = .ok (.iload_n 3, 1) := by decide +kernel
theorem dX6_bestOf_63 : decode fX6_bestOf.2.1 63 = .ok (.if_icmp .ge 16, 3) := by decide +kernel
theorem dX6_bestOf_66 : decode fX6_bestOf.2.1 66 = .ok (.aload_n 0, 1) := by decide +kernel
theorem dX6_bestOf_67 : decode fX6_bestOf.2.1 67 = .ok (.getfield 16, 3) := by decide +kernel
theorem dX6_bestOf_70 : decode fX6_bestOf.2.1 70 = .ok (.invokevirtual 151, 3) := by decide +kernel
theorem dX6_bestOf_73 : decode fX6_bestOf.2.1 73 = .ok (.iinc 9 1, 3) := by decide +kernel
theorem dX6_bestOf_76 : decode fX6_bestOf.2.1 76 = .ok (.goto (-16), 3) := by decide +kernel
theorem dX6_bestOf_79 : decode fX6_bestOf.2.1 79 = .ok (.aload_n 0, 1) := by decide +kernel
theorem dX6_bestOf_80 : decode fX6_bestOf.2.1 80 = .ok (.getfield 16, 3) := by decide +kernel
theorem dX6_bestOf_83 : decode fX6_bestOf.2.1 83 = .ok (.getfield 145, 3) := by decide +kernel
theorem dX6_bestOf_86 : decode fX6_bestOf.2.1 86 = .ok (.iload 6, 2) := by decide +kernel
theorem dX6_bestOf_88 : decode fX6_bestOf.2.1 88 = .ok (.if_icmp .le 16, 3) := by decide +kernel
theorem dX6_bestOf_91 : decode fX6_bestOf.2.1 91 = .ok (.aload_n 0, 1) := by decide +kernel
theorem dX6_bestOf_92 : decode fX6_bestOf.2.1 92 = .ok (.getfield 16, 3) := by decide +kernel
theorem dX6_bestOf_95 : decode fX6_bestOf.2.1 95 = .ok (.getfield 145, 3) := by decide +kernel
theorem dX6_bestOf_98 : decode fX6_bestOf.2.1 98 = .ok (.istore 6, 2) := by decide +kernel
theorem dX6_bestOf_100 : decode fX6_bestOf.2.1 100 = .ok (.iload 8, 2) := by decide +kernel
theorem dX6_bestOf_102 : decode fX6_bestOf.2.1 102 = .ok (.istore 5, 2) := by decide +kernel
theorem dX6_bestOf_104 : decode fX6_bestOf.2.1 104 = .ok (.iinc 8 1, 3) := by decide +kernel
theorem dX6_bestOf_107 : decode fX6_bestOf.2.1 107 = .ok (.goto (-82), 3) := by decide +kernel
theorem dX6_bestOf_110 : decode fX6_bestOf.2.1 110 = .ok (.iload 4, 2) := by decide +kernel
theorem dX6_bestOf_112 : decode fX6_bestOf.2.1 112 = .ok (.ifCond .ne 8, 3) := by decide +kernel
theorem dX6_bestOf_115 : decode fX6_bestOf.2.1 115 = .ok (.iload 5, 2) := by decide +kernel
theorem dX6_bestOf_117 : decode fX6_bestOf.2.1 117 = .ok (.goto 5, 3) := by decide +kernel
theorem dX6_bestOf_120 : decode fX6_bestOf.2.1 120 = .ok (.iload 6, 2) := by decide +kernel
theorem dX6_bestOf_122 : decode fX6_bestOf.2.1 122 = .ok (.ireturn, 1) := by decide +kernel
set_option maxRecDepth 100000 in
set_option maxHeartbeats 4000000 in
theorem ok_X6_bestOf {X : Xb} {S : Sg} {mi : Mem} {x n a q : Nat} {A : Nat → Int32} {lw : LawT} {c w : Int32} (hX : AsA S x) (hn8 : n ≤ 8) (hA : eqOn (26 + 5 * n) (tv mi (x + 1)) A) (hn : A 1 = nI n) (hx : TxOk S mi (x + 1) 0) (hl : lwC S mi (x + 1) 0 = lw) (hr : TxR S (x + 1)) (hc : c = 1 ∨ a < n) (hq : q ≤ 60) : Ok 5 0 0 fX6_bestOf X [rf X x, .int c, .int (nI a), .int (nI q), .int w] S mi (PT S mi x (sBest lw A n c a q w)) := by
  refine Ok.go [some (rf X x), some (.int c), some (.int (nI a)), some (.int (nI q)), some (.int w), none, none, none, none, none] (by decide) (by simp [Value.category]) (Nat.le_of_ble_eq_true rfl) rfl ?_
  obtain ⟨k_x, ⟨r_x_now, t_now⟩, ⟨r_x_thought, t_thought⟩, ⟨r_x_image, t_image⟩, ⟨r_x_tape, t_tape⟩, ⟨r_x_sheets, k_x_sheets⟩, ⟨r_x_slots, k_x_slots⟩, ⟨r_x_waiting, k_x_waiting⟩, ⟨r_x_diff, k_x_diff⟩, a_sheets, a_slots⟩ := id hX
  have ec : mi (x + 1) 3 = nI n := by rw [show (3 : Nat) = tvF 1 from rfl, tv_0 hA (by decide) (by omega), hn]
  have z : FrT x mi mi := fun _ _ => rfl
  have nx : x ≠ x + 18 + 4 := by omega
  have hT2 : TwA (cpS S (x + 18) (x + 1) 14) (x + 18) := TwA.cp t_thought t_thought.2.2.2.2.1.2
  have hU2 : TwA (cpS S (x + 18) (x + 1) 14) (x + 1) := TwA.cp t_now t_thought.2.2.2.2.1.2
  have k_x2 : Kd (cpS S (x + 18) (x + 1) 14) x 6 0 := k_x
  have r_x2 : (cpS S (x + 18) (x + 1) 14).2.2 x 1 = some (x + 18) := by show cpR S.2.2 (x + 18) (x + 1) 14 x 1 = _; simp only [cpR, nx, false_and, if_false]; exact r_x_thought
  have r_x3 : (cpS S (x + 18) (x + 1) 14).2.2 x 0 = some (x + 1) := by show cpR S.2.2 (x + 18) (x + 1) 14 x 0 = _; simp only [cpR, nx, false_and, if_false]; exact r_x_now
  have hr2 : TxR (cpS S (x + 18) (x + 1) 14) (x + 1) := hr.cp (by omega)
  have st : ∀ S' m, (S' = S ∨ S' = (cpS S (x + 18) (x + 1) 14)) → FrT x mi m → TwA S' (x + 18) ∧ TwA S' (x + 1) ∧ TxR S' (x + 1) ∧ S'.2.2 x 0 = some (x + 1) ∧ S'.2.2 x 1 = some (x + 18) ∧ Kd S' x 6 0 ∧ cpS S' (x + 18) (x + 1) 14 = (cpS S (x + 18) (x + 1) 14) ∧ TxOk S' m (x + 1) 0 ∧ lwC S' m (x + 1) 0 = lw := by
    intro S' m hS hm
    have hm' : ∀ a, a < x + 18 ∨ x + 18 + 17 ≤ a → m a = mi a := fun a ha => hm a (by omega)
    rcases hS with rfl | rfl
    · have g := tx_same0 (u := x + 1) t_thought (by omega) hx hm'
      exact ⟨t_thought, t_now, hr, r_x_now, r_x_thought, k_x, rfl, g.1, g.2.trans hl⟩
    · have g := tx_keep (u := x + 1) t_thought (by omega) (by omega) hx hm'
      exact ⟨hT2, hU2, hr2, r_x3, r_x2, k_x2, cpS_idem (by omega), g.1, g.2.trans hl⟩
  have s79 : ∀ v, v < chN c → ∀ m tk, FrT x mi m → m (x + 18) 8 = tk → chT lw A n c a q v = some tk → (∀ m2, FrT x mi m2 → MW X fX6_bestOf (rmOf 5 0 0) 0 0 25 [some (rf X x), some (.int c), some (.int (nI a)), some (.int (nI q)), some (.int w), some (.int (bestC (chT lw A n c a q) (v + 1)).1), some (.int (bestC (chT lw A n c a q) (v + 1)).2), some (.int (nI (chN c))), some (.int (nI (v + 1))), none] [] (cpS S (x + 18) (x + 1) 14) m2 (mQ X 0 0 (PT S mi x (sBest lw A n c a q w)))) → MW X fX6_bestOf (rmOf 5 0 0) 0 0 79 [some (rf X x), some (.int c), some (.int (nI a)), some (.int (nI q)), some (.int w), some (.int (bestC (chT lw A n c a q) v).1), some (.int (bestC (chT lw A n c a q) v).2), some (.int (nI (chN c))), some (.int (nI v)), none] [] (cpS S (x + 18) (x + 1) 14) m (mQ X 0 0 (PT S mi x (sBest lw A n c a q w))) := by
    intro v hv m tk hF etk hch ih
    have k_th := hT2.1
    simp only [bestC, hch] at ih
    refine mw_aload_n dX6_bestOf_79 rfl ?_
    refine mw_getr dX6_bestOf_80 fl_X6_16 rfl (by assumption) (by assumption) ?_
    refine mw_geti dX6_bestOf_83 fl_X6_145 rfl (by assumption) ?_
    rw [etk]
    refine mw_iload dX6_bestOf_86 rfl ?_
    refine mw_icmp_le (tgt := 104) dX6_bestOf_88 (by decide) (fun h88 => ?_) (fun h88 => ?_)
    · skip
      refine mw_iincK (k := v) dX6_bestOf_104 rfl rfl (by decide) ?_
      refine mw_goto (tgt := 25) dX6_bestOf_107 (by decide) ?_
      first
        | (rw [if_neg (Int32.not_lt.mpr h88)] at ih; exact MW.sub (by simp [lsub]) (ih m hF))
        | (rw [if_pos (Int32.not_le.mp h88)] at ih; exact MW.sub (by simp [lsub]) (ih m hF))
        | fail "stop"
    · skip
      refine mw_aload_n dX6_bestOf_91 rfl ?_
      refine mw_getr dX6_bestOf_92 fl_X6_16 rfl (by assumption) (by assumption) ?_
      refine mw_geti dX6_bestOf_95 fl_X6_145 rfl (by assumption) ?_
      rw [etk]
      refine mw_istore dX6_bestOf_98 (by decide) ?_
      refine mw_iload dX6_bestOf_100 rfl ?_
      refine mw_istore dX6_bestOf_102 (by decide) ?_
      refine mw_iincK (k := v) dX6_bestOf_104 rfl rfl (by decide) ?_
      refine mw_goto (tgt := 25) dX6_bestOf_107 (by decide) ?_
      first
        | (rw [if_neg (Int32.not_lt.mpr h88)] at ih; exact MW.sub (by simp [lsub]) (ih m hF))
        | (rw [if_pos (Int32.not_le.mp h88)] at ih; exact MW.sub (by simp [lsub]) (ih m hF))
        | fail "stop"
  have s60 : ∀ v, v < chN c → chB c (nI v) A = true → ∀ m0, FrT x mi m0 → TxOk (cpS S (x + 18) (x + 1) 14) m0 (x + 18) 0 → lwC (cpS S (x + 18) (x + 1) 14) m0 (x + 18) 0 = lw → (∀ m2, FrT x mi m2 → MW X fX6_bestOf (rmOf 5 0 0) 0 0 25 [some (rf X x), some (.int c), some (.int (nI a)), some (.int (nI q)), some (.int w), some (.int (bestC (chT lw A n c a q) (v + 1)).1), some (.int (bestC (chT lw A n c a q) (v + 1)).2), some (.int (nI (chN c))), some (.int (nI (v + 1))), none] [] (cpS S (x + 18) (x + 1) 14) m2 (mQ X 0 0 (PT S mi x (sBest lw A n c a q w)))) → ∀ m, eqOn (26 + 5 * n) (tv m (x + 18)) (chF c a (nI v) A) → Frt (x + 18) m0 m → MW X fX6_bestOf (rmOf 5 0 0) 0 0 60 [some (rf X x), some (.int c), some (.int (nI a)), some (.int (nI q)), some (.int w), some (.int (bestC (chT lw A n c a q) v).1), some (.int (bestC (chT lw A n c a q) v).2), some (.int (nI (chN c))), some (.int (nI (v))), some (.int (nI 0))] [] (cpS S (x + 18) (x + 1) 14) m (mQ X 0 0 (PT S mi x (sBest lw A n c a q w))) := by
    intro v hv hB m0 f0 x0 l0 ih0
    have hch : chT lw A n c a q v = some (cHours lw n (chF c a (nI v) A) q 3) := by rw [chT, if_pos hB]
    have k_th := hT2.1
    have lp := mw_dn (P := fun k => ∀ m, eqOn (26 + 5 * n) (tv m (x + 18)) (cHours lw n (chF c a (nI v) A) k) → Frt (x + 18) m0 m → MW X fX6_bestOf (rmOf 5 0 0) 0 0 60 [some (rf X x), some (.int c), some (.int (nI a)), some (.int (nI q)), some (.int w), some (.int (bestC (chT lw A n c a q) v).1), some (.int (bestC (chT lw A n c a q) v).2), some (.int (nI (chN c))), some (.int (nI (v))), some (.int (nI k))] [] (cpS S (x + 18) (x + 1) 14) m (mQ X 0 0 (PT S mi x (sBest lw A n c a q w)))) q (by
      intro m h2 hF
      have b3 : m (x + 18) 8 = cHours lw n (chF c a (nI v) A) q 3 := tv_0 (j := 3) h2 (by decide) (by omega)
      refine mw_iload dX6_bestOf_60 rfl ?_
      refine mw_iload_n dX6_bestOf_62 rfl ?_
      refine mw_icmp_ge (tgt := 79) dX6_bestOf_63 (by decide) (fun h63 => ?_) (fun h63 => ?_)
      · skip
        exact MW.sub (by simp [lsub]) (s79 v hv m _ (f0.of hF) b3 hch ih0)
      · skip
        exact absurd (Int32.le_refl _) h63) (fun k hk ih => by
      intro m h2 hF
      have hx2 := x0.fr hT2 hF
      have hl2 : lwC (cpS S (x + 18) (x + 1) 14) m (x + 18) 0 = lw := (lwC_fr hT2 x0 hF).trans l0
      have hn2 : cHours lw n (chF c a (nI v) A) k 1 = nI n := by rw [cHours_lo (by decide) (by decide) (by decide) (by decide) (by decide) (by decide), chF_1, hn]
      refine mw_iload dX6_bestOf_60 rfl ?_
      refine mw_iload_n dX6_bestOf_62 rfl ?_
      refine mw_icmp_ge (tgt := 79) dX6_bestOf_63 (by decide) (fun h63 => ?_) (fun h63 => ?_)
      · skip
        exact absurd h63 (nI_ge hk (by omega))
      · skip
        refine mw_aload_n dX6_bestOf_66 rfl ?_
        refine mw_getr dX6_bestOf_67 fl_X6_16 rfl (by assumption) (by assumption) ?_
        refine mw_callV (g := fX5_passHour) dX6_bestOf_70 ml_X6_151 mfX5_passHour (ok_X5_passHour hT2 hn8 h2 hn2 hx2 hl2) (by assumption) rfl rfl (Nat.le_of_ble_eq_true rfl) ⟨by decide, by decide⟩ ⟨by decide, by decide⟩ (fun r S2 mi2 hp => ?_)
        obtain ⟨rfl, e1, e4, e5⟩ := hp
        rw [e1]
        refine mw_iincK (k := k) dX6_bestOf_73 rfl rfl (by decide) ?_
        refine mw_goto (tgt := 60) dX6_bestOf_76 (by decide) ?_
        exact MW.sub (by simp [lsub]) (ih _ e4 (hF.tr e5)))
    exact lp
  have s43 : ∀ v, v < chN c → ∀ m0, FrT x mi m0 → eqOn (26 + 5 * n) (tv m0 (x + 18)) A → TxOk (cpS S (x + 18) (x + 1) 14) m0 (x + 18) 0 → lwC (cpS S (x + 18) (x + 1) 14) m0 (x + 18) 0 = lw → (∀ m2, FrT x mi m2 → MW X fX6_bestOf (rmOf 5 0 0) 0 0 25 [some (rf X x), some (.int c), some (.int (nI a)), some (.int (nI q)), some (.int w), some (.int (bestC (chT lw A n c a q) (v + 1)).1), some (.int (bestC (chT lw A n c a q) (v + 1)).2), some (.int (nI (chN c))), some (.int (nI (v + 1))), none] [] (cpS S (x + 18) (x + 1) 14) m2 (mQ X 0 0 (PT S mi x (sBest lw A n c a q w)))) → MW X fX6_bestOf (rmOf 5 0 0) 0 0 43 [some (rf X x), some (.int c), some (.int (nI a)), some (.int (nI q)), some (.int w), some (.int (bestC (chT lw A n c a q) v).1), some (.int (bestC (chT lw A n c a q) v).2), some (.int (nI (chN c))), some (.int (nI (v))), none] [] (cpS S (x + 18) (x + 1) 14) m0 (mQ X 0 0 (PT S mi x (sBest lw A n c a q w))) := by
    intro v hv m0 f0 a0 x0 l0 ih0
    have k_th := hT2.1
    refine mw_aload_n dX6_bestOf_43 rfl ?_
    refine mw_getr dX6_bestOf_44 fl_X6_16 rfl (by assumption) (by assumption) ?_
    refine mw_iload_n dX6_bestOf_47 rfl ?_
    refine mw_iload_n dX6_bestOf_48 rfl ?_
    refine mw_iload dX6_bestOf_49 rfl ?_
    refine mw_callV (g := fX5_choose) dX6_bestOf_51 ml_X6_307 mfX5_choose (ok_X5_choose hT2 hn8 a0 hn hc) (by assumption) rfl rfl (Nat.le_of_ble_eq_true rfl) ⟨by decide, by decide⟩ ⟨by decide, by decide⟩ (fun r S2 mi2 hp => ?_)
    obtain ⟨rfl, e1, e4, e5⟩ := hp
    rw [e1]
    refine mw_if_eqB (tgt := 104) dX6_bestOf_54 (by decide) (fun h54 => ?_) (fun h54 => ?_)
    · skip
      refine mw_iincK (k := v) dX6_bestOf_104 rfl rfl (by decide) ?_
      refine mw_goto (tgt := 25) dX6_bestOf_107 (by decide) ?_
      have hch : chT lw A n c a q v = none := by rw [chT, if_neg h54]
      simp only [bestC, hch] at ih0
      exact MW.sub (by simp [lsub]) (ih0 _ (f0.of e5))
    · skip
      refine mw_iconst (v := 0) dX6_bestOf_57 (by decide) ?_
      refine mw_istore dX6_bestOf_58 (by decide) ?_
      exact MW.sub (by simp [lsub, nI_0]) (s60 v hv h54 m0 f0 x0 l0 ih0 _ e4 e5)
  have lp : ∀ f v, f + v = chN c → ∀ S' m, (S' = S ∨ S' = (cpS S (x + 18) (x + 1) 14)) → FrT x mi m → MW X fX6_bestOf (rmOf 5 0 0) 0 0 25 [some (rf X x), some (.int c), some (.int (nI a)), some (.int (nI q)), some (.int w), some (.int (bestC (chT lw A n c a q) v).1), some (.int (bestC (chT lw A n c a q) v).2), some (.int (nI (chN c))), some (.int (nI (v))), none] [] S' m (mQ X 0 0 (PT S mi x (sBest lw A n c a q w))) := by
    intro f
    induction f with
    | zero =>
      intro v hv S' m hS hm
      obtain rfl : v = chN c := by omega
      refine mw_iload dX6_bestOf_25 rfl ?_
      refine mw_iload dX6_bestOf_27 rfl ?_
      refine mw_icmp_ge (tgt := 110) dX6_bestOf_29 (by decide) (fun h29 => ?_) (fun h29 => ?_)
      · skip
        refine mw_iload dX6_bestOf_110 rfl ?_
        refine mw_if_ne (tgt := 120) dX6_bestOf_112 (by decide) (fun h112 => ?_) (fun h112 => ?_)
        · skip
          refine mw_iload dX6_bestOf_120 rfl ?_
          exact mw_iret dX6_bestOf_122 rfl (by decide) (by decide) (⟨by first | rw [sBest, if_pos h112] | rw [sBest, if_neg h112], hS, hm⟩)
        · skip
          refine mw_iload dX6_bestOf_115 rfl ?_
          refine mw_goto (tgt := 122) dX6_bestOf_117 (by decide) ?_
          exact mw_iret dX6_bestOf_122 rfl (by decide) (by decide) (⟨by first | rw [sBest, if_pos h112] | rw [sBest, if_neg h112], hS, hm⟩)
      · skip
        exact absurd (Int32.le_refl _) h29
    | succ f ih =>
      intro v hv S' m hS hm
      have hv' : v < chN c := by omega
      have c24 : chN c ≤ 24 := by unfold chN; split <;> omega
      obtain ⟨g1, g2, g3, g4, g5, g6, g7, g8, g9⟩ := st S' m hS hm
      have ecm : m (x + 1) 3 = nI n := by rw [hm (x + 1) (by omega)]; exact ec
      have hAm : eqOn (26 + 5 * n) (tv m (x + 1)) A := fun j hj => by
        rw [← hA j hj]
        unfold tv
        rw [hm (x + 1) (by omega), hm (x + 1 + 1) (by omega), hm (x + 1 + 2) (by omega), hm (x + 1 + 9 + (j - 26) / 5) (by omega)]
      refine mw_iload dX6_bestOf_25 rfl ?_
      refine mw_iload dX6_bestOf_27 rfl ?_
      refine mw_icmp_ge (tgt := 110) dX6_bestOf_29 (by decide) (fun h29 => ?_) (fun h29 => ?_)
      · skip
        exact absurd h29 (nI_ge hv' (by omega))
      · skip
        refine mw_aload_n dX6_bestOf_32 rfl ?_
        refine mw_getr dX6_bestOf_33 fl_X6_16 rfl (by assumption) (by assumption) ?_
        refine mw_aload_n dX6_bestOf_36 rfl ?_
        refine mw_getr dX6_bestOf_37 fl_X6_10 rfl (by assumption) (by assumption) ?_
        refine mw_callV (g := fX5_takeAfter) dX6_bestOf_40 ml_X6_178 mfX5_takeAfter (ok_X5_takeAfter (n := n) g1 g2 (by omega) ecm hn8 g3) (g1.1) rfl rfl (Nat.le_of_ble_eq_true rfl) ⟨by decide, by decide⟩ ⟨by decide, by decide⟩ (fun r S2 mi2 hp => ?_)
        obtain ⟨rfl, e1, e2, e3, e4⟩ := hp
        obtain ⟨x0, l0⟩ := take_tx (j := 0) g1 (by decide) g8 e2 e4
        rw [g7] at e1 x0 l0
        rw [e1]
        exact MW.sub (by simp [lsub]) (s43 v hv' _ (fun a ha => (e2 a (by omega)).trans (hm a ha)) (e3.tr hAm) x0 (l0.trans g9) (fun m2 h2 => ih (v + 1) (by omega) _ m2 (Or.inr rfl) h2))
  have gg := lp (chN c) 0 rfl S mi (Or.inl rfl) z
  rw [chN] at gg
  refine mw_ldc dX6_bestOf_0 cn_X6_182 ?_
  refine mw_istore dX6_bestOf_2 (by decide) ?_
  refine mw_ldc dX6_bestOf_4 cn_X6_182 ?_
  refine mw_istore dX6_bestOf_6 (by decide) ?_
  refine mw_iload_n dX6_bestOf_8 rfl ?_
  refine mw_iconst (v := 2) dX6_bestOf_9 (by decide) ?_
  refine mw_icmp_ne (tgt := 18) dX6_bestOf_10 (by decide) (fun h10 => ?_) (fun h10 => ?_)
  · skip
    refine mw_bipush (v := 24) dX6_bestOf_18 (by decide) ?_
    refine mw_istore dX6_bestOf_20 (by decide) ?_
    refine mw_iconst (v := 0) dX6_bestOf_22 (by decide) ?_
    refine mw_istore dX6_bestOf_23 (by decide) ?_
    first
      | (rw [if_pos h10, show nI 6 = 6 from rfl] at gg; exact MW.sub (by simp [lsub, nI_0, bestC]) gg)
      | (rw [if_neg h10, show nI 24 = 24 from rfl] at gg; exact MW.sub (by simp [lsub, nI_0, bestC]) gg)
      | fail "stop"
  · skip
    refine mw_bipush (v := 6) dX6_bestOf_13 (by decide) ?_
    refine mw_goto (tgt := 20) dX6_bestOf_15 (by decide) ?_
    refine mw_istore dX6_bestOf_20 (by decide) ?_
    refine mw_iconst (v := 0) dX6_bestOf_22 (by decide) ?_
    refine mw_istore dX6_bestOf_23 (by decide) ?_
    first
      | (rw [if_pos h10, show nI 6 = 6 from rfl] at gg; exact MW.sub (by simp [lsub, nI_0, bestC]) gg)
      | (rw [if_neg h10, show nI 24 = 24 from rfl] at gg; exact MW.sub (by simp [lsub, nI_0, bestC]) gg)
      | fail "stop"
