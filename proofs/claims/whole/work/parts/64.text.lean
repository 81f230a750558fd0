/-! a text is made -/
section MWF
variable {X : Xb} {fr : Fr} {R : Room} {kc sl pc : Nat} {L : List (Option Value)} {st : List Value} {S : Sg} {mi : Mem} {Q : Qt}
theorem mw_putFi {idx ci k i z : Nat} {v : Int32} (hd : decode fr.2.1 pc = .ok (.putfield idx, 3)) (hf : FL fr.1.cls idx ci k) (ht : FT ci k true .int) (hin : fr.1.name = "<init>") (hown : ∀ q : vw_C, vwCl[ci]? = some q → q.1 = fr.1.cls) (hr : isR ci k = false) (hk : Kd S i ci z) (kk : MW X fr R kc sl (pc + 3) L st S (m_up mi i k v) Q) : MW X fr R kc sl pc L (.int v :: .ref (X.1 + i) :: st) S mi Q :=
  mw_putF (v := .int v) (mi' := m_up mi i k v) (mr' := S.2.2) hd hf ht hin hown rfl rfl hk (by rw [hr]; simp [m_up]) (fun a b h => ⟨by simp only [m_up]; rw [if_neg h], rfl⟩) kk
theorem mw_putFr {idx ci k i z a : Nat} {ty : FieldType} (hd : decode fr.2.1 pc = .ok (.putfield idx, 3)) (hf : FL fr.1.cls idx ci k) (ht : FT ci k true ty) (hin : fr.1.name = "<init>") (hown : ∀ q : vw_C, vwCl[ci]? = some q → q.1 = fr.1.cls) (hr : isR ci k = true) (hnar : narrow ty (.ref (X.1 + a)) = .ref (X.1 + a)) (hfit : fits ty (.ref (X.1 + a)) = true) (hk : Kd S i ci z) (kk : MW X fr R kc sl (pc + 3) L st (S.1, S.2.1, r_up S.2.2 i k (some a)) mi Q) : MW X fr R kc sl pc L (.ref (X.1 + a) :: .ref (X.1 + i) :: st) S mi Q :=
  mw_putF (v := .ref (X.1 + a)) (mi' := mi) (mr' := r_up S.2.2 i k (some a)) hd hf ht hin hown hnar hfit hk (by rw [hr]; simp [r_up, va_rf]) (fun a b h => ⟨rfl, by simp only [r_up]; rw [if_neg h]⟩) kk
end MWF
theorem Kd_nw {S : Sg} {i c z c' z' : Nat} (h : Kd S i c z) : Kd (nwS S c' z') i c z := ⟨Nat.lt_succ_of_lt h.1, by
  show (if i = S.1 then _ else _) = _
  rw [if_neg (Nat.ne_of_lt h.1)]; exact h.2⟩
theorem Kd_nw0 (S : Sg) (c z : Nat) : Kd (nwS S c z) S.1 c z := ⟨Nat.lt_succ_self _, if_pos rfl⟩
theorem nw_r {S : Sg} {a c z : Nat} (h : a < S.1) (k : Nat) : (nwS S c z).2.2 a k = S.2.2 a k := if_neg (Nat.ne_of_lt h)
theorem nw_m {S : Sg} {a : Nat} {mi : Mem} (h : a < S.1) : nwM S mi a = mi a := by funext k; exact if_neg (Nat.ne_of_lt h)
def in4S (S : Sg) (p n : Nat) : Sg := ((nwS S 8 n).1, (nwS S 8 n).2.1, r_up (nwS S 8 n).2.2 p 2 (some S.1))
theorem dX4_init_0 : decode fX4_init.2.1 0 = .ok (.aload_n 0, 1) := by decide +kernel
theorem dX4_init_1 : decode fX4_init.2.1 1 = .ok (.invokespecial 1, 3) := by decide +kernel
theorem dX4_init_4 : decode fX4_init.2.1 4 = .ok (.aload_n 0, 1) := by decide +kernel
theorem dX4_init_5 : decode fX4_init.2.1 5 = .ok (.iload_n 1, 1) := by decide +kernel
theorem dX4_init_6 : decode fX4_init.2.1 6 = .ok (.putfield 7, 3) := by decide +kernel
theorem dX4_init_9 : decode fX4_init.2.1 9 = .ok (.aload_n 0, 1) := by decide +kernel
theorem dX4_init_10 : decode fX4_init.2.1 10 = .ok (.iload_n 2, 1) := by decide +kernel
theorem dX4_init_11 : decode fX4_init.2.1 11 = .ok (.putfield 13, 3) := by decide +kernel
theorem dX4_init_14 : decode fX4_init.2.1 14 = .ok (.aload_n 0, 1) := by decide +kernel
theorem dX4_init_15 : decode fX4_init.2.1 15 = .ok (.iload 4, 2) := by decide +kernel
theorem dX4_init_17 : decode fX4_init.2.1 17 = .ok (.newarray .int, 2) := by decide +kernel
theorem dX4_init_19 : decode fX4_init.2.1 19 = .ok (.putfield 16, 3) := by decide +kernel
theorem dX4_init_22 : decode fX4_init.2.1 22 = .ok (.aload_n 3, 1) := by decide +kernel
theorem dX4_init_23 : decode fX4_init.2.1 23 = .ok (.iconst 0, 1) := by decide +kernel
theorem dX4_init_24 : decode fX4_init.2.1 24 = .ok (.aload_n 0, 1) := by decide +kernel
theorem dX4_init_25 : decode fX4_init.2.1 25 = .ok (.getfield 16, 3) := by decide +kernel
theorem dX4_init_28 : decode fX4_init.2.1 28 = .ok (.iconst 0, 1) := by decide +kernel
theorem dX4_init_29 : decode fX4_init.2.1 29 = .ok (.iload 4, 2) := by decide +kernel
theorem dX4_init_31 : decode fX4_init.2.1 31 = .ok (.invokestatic 20, 3) := by decide +kernel
theorem dX4_init_34 : decode fX4_init.2.1 34 = .ok (.return_, 1) := by decide +kernel
set_option maxRecDepth 100000 in
set_option maxHeartbeats 4000000 in
theorem ok_X4_init {X : Xb} {S : Sg} {mi : Mem} {p sq n : Nat} {k lv : Int32} (hp : Kd S p 4 0) (hs : Kd S sq 8 96) (hn : n ≤ 96) : Ok 1 1 96 fX4_init X [rf X p, .int k, .int lv, rf X sq, .int (nI n)] S mi (fun r S' m => r = none ∧ S' = in4S S p n ∧ m = m_cpy (nwM S (m_up (m_up mi p 0 k) p 1 lv)) sq S.1 0 0 n) := by
  refine Ok.go [some (rf X p), some (.int k), some (.int lv), some (rf X sq), some (.int (nI n))] (by decide) (by simp [Value.category]) (Nat.le_of_ble_eq_true rfl) rfl ?_
  have hp1 := hp.1
  have hs1 := hs.1
  have kp : Kd (in4S S p n) p 4 0 := Kd_nw hp
  have kp1 : Kd (nwS S 8 n) p 4 0 := Kd_nw hp
  have ks : Kd (in4S S p n) sq 8 96 := Kd_nw hs
  have ka : Kd (in4S S p n) S.1 8 n := Kd_nw0 S 8 n
  have rp : (in4S S p n).2.2 p 2 = some S.1 := by show r_up _ p 2 (some S.1) p 2 = _; simp [r_up]
  refine mw_aload_n dX4_init_0 rfl ?_
  refine mw_objI dX4_init_1 ml_X4_1 (Nat.le_of_ble_eq_true rfl) ⟨by decide, by decide⟩ ?_
  refine mw_aload_n dX4_init_4 rfl ?_
  refine mw_iload_n dX4_init_5 rfl ?_
  refine mw_putFi dX4_init_6 fl_X4_7 ft_4_0 rfl (fun q h => by cases h; rfl) rfl hp ?_
  refine mw_aload_n dX4_init_9 rfl ?_
  refine mw_iload_n dX4_init_10 rfl ?_
  refine mw_putFi dX4_init_11 fl_X4_13 ft_4_1 rfl (fun q h => by cases h; rfl) rfl hp ?_
  refine mw_aload_n dX4_init_14 rfl ?_
  refine mw_iload dX4_init_15 rfl ?_
  refine mw_newi (N := n) dX4_init_17 arr_int (nI_pos (by omega)) (nI_clamp (by omega)) (by omega) (by decide) (by dsimp only [rmOf]; omega) ?_
  refine mw_putFr (a := S.1) dX4_init_19 fl_X4_16 ft_4_2 rfl (fun q h => by cases h; rfl) rfl rfl rfl kp1 ?_
  refine mw_aload_n dX4_init_22 rfl ?_
  refine mw_iconst (v := 0) dX4_init_23 (by decide) ?_
  refine mw_aload_n dX4_init_24 rfl ?_
  refine mw_getr dX4_init_25 fl_X4_16 rfl (kp) (rp) ?_
  refine mw_iconst (v := 0) dX4_init_28 (by decide) ?_
  refine mw_iload dX4_init_29 rfl ?_
  refine mw_acopy dX4_init_31 ml_X4_20 ks ka (by decide) (by decide) (nI_pos (by omega)) (by rw [nI_clamp (by omega), show Int32.toNatClampNeg 0 = 0 from by decide]; omega) (by rw [nI_clamp (by omega), show Int32.toNatClampNeg 0 = 0 from by decide]; omega) (Nat.le_of_ble_eq_true rfl) ⟨by decide, by decide⟩ ?_
  rw [nI_clamp (by omega), show Int32.toNatClampNeg 0 = 0 from by decide]
  exact mw_vret dX4_init_34 rfl (by decide) (by omega) ⟨rfl, rfl, rfl⟩
/-- two cells more: a text and its steps -/
def NwT (S S' : Sg) (n : Nat) : Prop := S'.1 = S.1 + 2 ∧ Kd S' S.1 4 0 ∧ Kd S' (S.1 + 1) 8 n ∧ S'.2.2 S.1 2 = some (S.1 + 1) ∧ ∀ a, a < S.1 → S'.2.1 a = S.2.1 a ∧ S'.2.2 a = S.2.2 a
theorem NwT_mk (S : Sg) (n : Nat) : NwT S (in4S (nwS S 4 0) S.1 n) n := by
  refine ⟨rfl, Kd_nw (Kd_nw0 S 4 0), Kd_nw0 (nwS S 4 0) 8 n, ?_, fun a ha => ⟨?_, ?_⟩⟩
  · show r_up _ S.1 2 (some (S.1 + 1)) S.1 2 = _
    simp [r_up]
  · show (if a = S.1 + 1 then _ else if a = S.1 then _ else S.2.1 a) = _
    rw [if_neg (by omega), if_neg (by omega)]
  · funext k
    show (if a = S.1 ∧ k = 2 then _ else (if a = S.1 + 1 then _ else if a = S.1 then _ else S.2.2 a k)) = _
    rw [if_neg (by omega), if_neg (by omega), if_neg (by omega)]
def FrR (q : Nat) (mi m : Mem) : Prop := (∀ a, a ≠ q → a ≠ q + 2 → m a = mi a) ∧ m q 1 = mi q 1
def Ps0 : Ps := ((0, 0, 0), (0, 0, 0), [])
/-- a text read: the fault's place, or the key and the state behind it -/
def rdT (b : Nat → Int32) (len : Nat) : Nat ⊕ (Nat × Ps) :=
  if keyH b (adv b len Ps0) < 0 then .inl (adv b len Ps0).1.1
  else if (par b len (keyH b (adv b len Ps0)).toNatClampNeg 70 0 (adv b len (adv b len Ps0))).1 = true ∧ (par b len (keyH b (adv b len Ps0)).toNatClampNeg 70 0 (adv b len (adv b len Ps0))).2.1.2.2 = 0 then .inr ((keyH b (adv b len Ps0)).toNatClampNeg, (par b len (keyH b (adv b len Ps0)).toNatClampNeg 70 0 (adv b len (adv b len Ps0))).2)
  else .inl (par b len (keyH b (adv b len Ps0)).toNatClampNeg 70 0 (adv b len (adv b len Ps0))).2.1.1
def RdP (X : Xb) (S : Sg) (mi : Mem) (q : Nat) (b : Nat → Int32) (len : Nat) : Pt3 := fun r S' m =>
  (∃ ft, rdT b len = .inl ft ∧ r = some .null ∧ S' = S ∧ m q 2 = nI ft ∧ FrR q mi m) ∨
  (∃ key P, rdT b len = .inr (key, P) ∧ key < 3 ∧ P.2.2.length ≤ 96 ∧ r = some (rf X S.1) ∧ NwT S S' P.2.2.length ∧ m S.1 0 = nI key ∧ m S.1 1 = nI P.2.1.2.2 ∧ (∀ j, j < P.2.2.length → m (S.1 + 1) j = P.2.2.getD j 0) ∧ (∀ a, a < S.1 → a ≠ q → a ≠ q + 2 → m a = mi a) ∧ m q 1 = mi q 1)
theorem nI_any (x : Int32) : ∃ k, x = nI k := ⟨x.toBitVec.toNat, by
  apply Int32.toBitVec_inj.mp
  show x.toBitVec = BitVec.ofNat 32 x.toBitVec.toNat
  simp⟩
theorem keyH_in {b : Nat → Int32} {P : Ps} (h : ¬ keyH b P < 0) : ∃ k, k < 3 ∧ keyH b P = nI k := by
  unfold keyH at h ⊢
  split
  · exact ⟨0, by decide, rfl⟩
  · split
    · exact ⟨1, by decide, rfl⟩
    · split
      · exact ⟨2, by decide, rfl⟩
      · rename_i g1 g2 g3
        rw [if_neg g1, if_neg g2, if_neg g3] at h
        exact absurd (by decide) h
theorem TpS.u5 {m : Mem} {q : Nat} {P : Ps} {v : Int32} (h : TpS m q P) : TpS (m_up m q 5 v) q P := by
  obtain ⟨h1, h2, h3, h4, h5, h6, h7, h8⟩ := h
  exact ⟨by rw [m_up_of (by decide)]; exact h1, by rw [m_up_of (by decide)]; exact h2, by rw [m_up_of (by decide)]; exact h3, by rw [m_up_of (by decide)]; exact h4, by rw [m_up_of (by decide)]; exact h5, by rw [m_up_of (by decide)]; exact h6, by rw [m_up_of (by decide)]; exact h7, fun j hj => by rw [m_up_ne (by omega)]; exact h8 j hj⟩
theorem dX3_readText_0 : decode fX3_readText.2.1 0 = .ok (.aload_n 0, 1) := by decide +kernel
theorem dX3_readText_1 : decode fX3_readText.2.1 1 = .ok (.iconst 0, 1) := by decide +kernel
theorem dX3_readText_2 : decode fX3_readText.2.1 2 = .ok (.putfield 22, 3) := by decide +kernel
theorem dX3_readText_5 : decode fX3_readText.2.1 5 = .ok (.aload_n 0, 1) := by decide +kernel
theorem dX3_readText_6 : decode fX3_readText.2.1 6 = .ok (.iconst 0, 1) := by decide +kernel
theorem dX3_readText_7 : decode fX3_readText.2.1 7 = .ok (.putfield 25, 3) := by decide +kernel
theorem dX3_readText_10 : decode fX3_readText.2.1 10 = .ok (.aload_n 0, 1) := by decide +kernel
theorem dX3_readText_11 : decode fX3_readText.2.1 11 = .ok (.iconst 0, 1) := by decide +kernel
theorem dX3_readText_12 : decode fX3_readText.2.1 12 = .ok (.putfield 28, 3) := by decide +kernel
theorem dX3_readText_15 : decode fX3_readText.2.1 15 = .ok (.aload_n 0, 1) := by decide +kernel
theorem dX3_readText_16 : decode fX3_readText.2.1 16 = .ok (.iconst 0, 1) := by decide +kernel
theorem dX3_readText_17 : decode fX3_readText.2.1 17 = .ok (.putfield 31, 3) := by decide +kernel
theorem dX3_readText_20 : decode fX3_readText.2.1 20 = .ok (.aload_n 0, 1) := by decide +kernel
theorem dX3_readText_21 : decode fX3_readText.2.1 21 = .ok (.iconst 0, 1) := by decide +kernel
theorem dX3_readText_22 : decode fX3_readText.2.1 22 = .ok (.putfield 34, 3) := by decide +kernel
theorem dX3_readText_25 : decode fX3_readText.2.1 25 = .ok (.aload_n 0, 1) := by decide +kernel
theorem dX3_readText_26 : decode fX3_readText.2.1 26 = .ok (.iconst 0, 1) := by decide +kernel
theorem dX3_readText_27 : decode fX3_readText.2.1 27 = .ok (.putfield 37, 3) := by decide +kernel
theorem dX3_readText_30 : decode fX3_readText.2.1 30 = .ok (.aload_n 0, 1) := by decide +kernel
theorem dX3_readText_31 : decode fX3_readText.2.1 31 = .ok (.invokevirtual 40, 3) := by decide +kernel
theorem dX3_readText_34 : decode fX3_readText.2.1 34 = .ok (.aload_n 0, 1) := by decide +kernel
theorem dX3_readText_35 : decode fX3_readText.2.1 35 = .ok (.aload_n 0, 1) := by decide +kernel
theorem dX3_readText_36 : decode fX3_readText.2.1 36 = .ok (.invokevirtual 43, 3) := by decide +kernel
theorem dX3_readText_39 : decode fX3_readText.2.1 39 = .ok (.putfield 47, 3) := by decide +kernel
theorem dX3_readText_42 : decode fX3_readText.2.1 42 = .ok (.aload_n 0, 1) := by decide +kernel
theorem dX3_readText_43 : decode fX3_readText.2.1 43 = .ok (.getfield 47, 3) := by decide +kernel
theorem dX3_readText_46 : decode fX3_readText.2.1 46 = .ok (.ifCond .ge 5, 3) := by decide +kernel
theorem dX3_readText_49 : decode fX3_readText.2.1 49 = .ok (.aconst_null, 1) := by decide +kernel
theorem dX3_readText_50 : decode fX3_readText.2.1 50 = .ok (.areturn, 1) := by decide +kernel
theorem dX3_readText_51 : decode fX3_readText.2.1 51 = .ok (.aload_n 0, 1) := by decide +kernel
theorem dX3_readText_52 : decode fX3_readText.2.1 52 = .ok (.invokevirtual 40, 3) := by decide +kernel
theorem dX3_readText_55 : decode fX3_readText.2.1 55 = .ok (.aload_n 0, 1) := by decide +kernel
theorem dX3_readText_56 : decode fX3_readText.2.1 56 = .ok (.iconst 0, 1) := by decide +kernel
theorem dX3_readText_57 : decode fX3_readText.2.1 57 = .ok (.invokevirtual 50, 3) := by decide +kernel
theorem dX3_readText_60 : decode fX3_readText.2.1 60 = .ok (.ifCond .eq 10, 3) := by decide +kernel
theorem dX3_readText_63 : decode fX3_readText.2.1 63 = .ok (.aload_n 0, 1) := by decide +kernel
theorem dX3_readText_64 : decode fX3_readText.2.1 64 = .ok (.getfield 25, 3) := by decide +kernel
theorem dX3_readText_67 : decode fX3_readText.2.1 67 = .ok (.ifCond .eq 5, 3) := by decide +kernel
theorem dX3_readText_70 : decode fX3_readText.2.1 70 = .ok (.aconst_null, 1) := by decide +kernel
theorem dX3_readText_71 : decode fX3_readText.2.1 71 = .ok (.areturn, 1) := by decide +kernel
theorem dX3_readText_72 : decode fX3_readText.2.1 72 = .ok (.new 54, 3) := by decide +kernel
theorem dX3_readText_75 : decode fX3_readText.2.1 75 = .ok (.dup, 1) := by decide +kernel
theorem dX3_readText_76 : decode fX3_readText.2.1 76 = .ok (.aload_n 0, 1) := by decide +kernel
theorem dX3_readText_77 : decode fX3_readText.2.1 77 = .ok (.getfield 47, 3) := by decide +kernel
theorem dX3_readText_80 : decode fX3_readText.2.1 80 = .ok (.aload_n 0, 1) := by decide +kernel
theorem dX3_readText_81 : decode fX3_readText.2.1 81 = .ok (.getfield 34, 3) := by decide +kernel
theorem dX3_readText_84 : decode fX3_readText.2.1 84 = .ok (.aload_n 0, 1) := by decide +kernel
theorem dX3_readText_85 : decode fX3_readText.2.1 85 = .ok (.getfield 15, 3) := by decide +kernel
theorem dX3_readText_88 : decode fX3_readText.2.1 88 = .ok (.aload_n 0, 1) := by decide +kernel
theorem dX3_readText_89 : decode fX3_readText.2.1 89 = .ok (.getfield 37, 3) := by decide +kernel
theorem dX3_readText_92 : decode fX3_readText.2.1 92 = .ok (.invokespecial 56, 3) := by decide +kernel
theorem dX3_readText_95 : decode fX3_readText.2.1 95 = .ok (.areturn, 1) := by decide +kernel
set_option maxRecDepth 100000 in
set_option maxHeartbeats 4000000 in
theorem ok_X3_readText {X : Xb} {S : Sg} {mi : Mem} {q len : Nat} {b : Nat → Int32} (hT : TpA S q) (hB : TpB mi q b len) (hl : len ≤ 96) : Ok 217 2 99 fX3_readText X [rf X q] S mi (RdP X S mi q b len) := by
  refine Ok.go [some (rf X q)] (by decide) (by simp [Value.category]) (Nat.le_of_ble_eq_true rfl) rfl ?_
  obtain ⟨k_q, ⟨r_q_bytes, k_q_bytes⟩, ⟨r_q_steps, k_q_steps⟩⟩ := id hT
  obtain ⟨bg0, hbg⟩ := nI_any (mi q 2)
  have t0 : TpS (m_up (m_up (m_up (m_up (m_up (m_up mi q 3 0) q 4 0) q 6 0) q 7 0) q 8 0) q 10 0) q ((bg0, 0, 0), (0, 0, 0), []) := ⟨by simp [m_up]; exact hbg, by simp [m_up]; rfl, by simp [m_up]; rfl, by simp [m_up]; rfl, by simp [m_up]; rfl, by simp [m_up]; rfl, by simp [m_up]; rfl, fun j hj => absurd hj (Nat.not_lt_zero j)⟩
  have f0 : FrP q mi (m_up (m_up (m_up (m_up (m_up (m_up mi q 3 0) q 4 0) q 6 0) q 7 0) q 8 0) q 10 0) := ((((((FrP.rf q mi).up (by decide) (by decide)).up (by decide) (by decide)).up (by decide) (by decide)).up (by decide) (by decide)).up (by decide) (by decide)).up (by decide) (by decide)
  have pb0 : Pb len Ps0 := ⟨Nat.le_refl _, Nat.zero_le _, Nat.zero_le _, Nat.zero_le _, Nat.zero_le _, Nat.zero_le _, hl⟩
  have pb1 : Pb len (adv b len Ps0) := pb_adv pb0
  refine mw_aload_n dX3_readText_0 rfl ?_
  refine mw_iconst (v := 0) dX3_readText_1 (by decide) ?_
  refine mw_puti dX3_readText_2 fl_X3_22 ft_3_3 rfl (rfl) rfl (by assumption) ?_
  refine mw_aload_n dX3_readText_5 rfl ?_
  refine mw_iconst (v := 0) dX3_readText_6 (by decide) ?_
  refine mw_puti dX3_readText_7 fl_X3_25 ft_3_4 rfl (rfl) rfl (by assumption) ?_
  refine mw_aload_n dX3_readText_10 rfl ?_
  refine mw_iconst (v := 0) dX3_readText_11 (by decide) ?_
  refine mw_puti dX3_readText_12 fl_X3_28 ft_3_6 rfl (rfl) rfl (by assumption) ?_
  refine mw_aload_n dX3_readText_15 rfl ?_
  refine mw_iconst (v := 0) dX3_readText_16 (by decide) ?_
  refine mw_puti dX3_readText_17 fl_X3_31 ft_3_7 rfl (rfl) rfl (by assumption) ?_
  refine mw_aload_n dX3_readText_20 rfl ?_
  refine mw_iconst (v := 0) dX3_readText_21 (by decide) ?_
  refine mw_puti dX3_readText_22 fl_X3_34 ft_3_8 rfl (rfl) rfl (by assumption) ?_
  refine mw_aload_n dX3_readText_25 rfl ?_
  refine mw_iconst (v := 0) dX3_readText_26 (by decide) ?_
  refine mw_puti dX3_readText_27 fl_X3_37 ft_3_10 rfl (rfl) rfl (by assumption) ?_
  generalize (m_up (m_up (m_up (m_up (m_up (m_up mi q 3 0) q 4 0) q 6 0) q 7 0) q 8 0) q 10 0) = m0 at t0 f0
  refine mw_aload_n dX3_readText_30 rfl ?_
  refine mw_callV (g := fX3_advance) dX3_readText_31 ml_X3_40 mfX3_advance (ok_X3_advT (bg0 := bg0) (e := 0) (s0 := 0) hT (hB.fr f0) t0 (Nat.zero_le _) (by decide) hl) k_q rfl rfl (Nat.le_of_ble_eq_true rfl) ⟨by decide, by decide⟩ ⟨by decide, by decide⟩ (fun r S2 m1 hp => ?_)
  obtain ⟨rfl, e1, h1, f1⟩ := hp
  rw [e1]
  have h1' : TpS m1 q (adv b len Ps0) := h1
  have f01 := f0.tr f1
  refine mw_aload_n dX3_readText_34 rfl ?_
  refine mw_aload_n dX3_readText_35 rfl ?_
  refine mw_cVI (g := fX3_keyHere) dX3_readText_36 ml_X3_43 mfX3_keyHere (ok_X3_keyHere hT (hB.fr f01) h1' pb1) (by assumption) rfl rfl (Nat.le_of_ble_eq_true rfl) ⟨by decide, by decide⟩ ⟨by decide, by decide⟩ ?_
  refine mw_puti dX3_readText_39 fl_X3_47 ft_3_5 rfl (rfl) rfl (by assumption) ?_
  have h2 : TpS (m_up m1 q 5 (keyH b (adv b len Ps0))) q (adv b len Ps0) := h1'.u5
  have e5 : m_up m1 q 5 (keyH b (adv b len Ps0)) q 5 = keyH b (adv b len Ps0) := m_up_at _ _ _ _
  have fr2 : FrR q mi (m_up m1 q 5 (keyH b (adv b len Ps0))) := ⟨fun a g1 g2 => by rw [m_up_ne g1]; exact f01.1 a g1 g2, by rw [m_up_of (by decide)]; exact f01.2.1⟩
  generalize m_up m1 q 5 (keyH b (adv b len Ps0)) = m2 at h2 e5 fr2
  refine mw_aload_n dX3_readText_42 rfl ?_
  refine mw_geti dX3_readText_43 fl_X3_47 rfl (by assumption) ?_
  rw [e5]
  refine mw_if_ge (tgt := 51) dX3_readText_46 (by decide) (fun h46 => ?_) (fun h46 => ?_)
  · skip
    have nk : ¬ keyH b (adv b len Ps0) < 0 := Int32.not_lt.mpr h46
    obtain ⟨key, k3, hkey⟩ := keyH_in nk
    have ek : (keyH b (adv b len Ps0)).toNatClampNeg = key := by rw [hkey, nI_clamp (by omega)]
    have hB2 : TpB m2 q b len := ⟨by rw [fr2.1 (q + 1) (by omega) (by omega)]; exact hB.1, by rw [fr2.2]; exact hB.2⟩
    refine mw_aload_n dX3_readText_51 rfl ?_
    refine mw_callV (g := fX3_advance) dX3_readText_52 ml_X3_40 mfX3_advance (ok_X3_advance hT hB2 h2 pb1) k_q rfl rfl (Nat.le_of_ble_eq_true rfl) ⟨by decide, by decide⟩ ⟨by decide, by decide⟩ (fun r S3 m3 hp => ?_)
    obtain ⟨rfl, e3, h3, f3⟩ := hp
    rw [e3]
    have e53 : m3 q 5 = nI key := by rw [f3.2.2, e5, hkey]
    have gk := par_ok (key := key) 70 0 (adv b len (adv b len Ps0)) (pb_adv pb1) (tkW_adv b len _)
    refine mw_aload_n dX3_readText_55 rfl ?_
    refine mw_iconst (v := 0) dX3_readText_56 (by decide) ?_
    refine mw_callV (g := fX3_readJoined) dX3_readText_57 ml_X3_50 mfX3_readJoined ((parse_all X b len key k3 70).1 S m3 q (adv b len (adv b len Ps0)) 0 hT (hB2.fr f3) h3 (pb_adv pb1) (tkW_adv b len _) e53 (by decide) (show muP 0 Ps0 < 70 by decide)) k_q rfl rfl (Nat.le_of_ble_eq_true rfl) ⟨by decide, by decide⟩ ⟨by decide, by decide⟩ (fun r S4 m4 hp => ?_)
    obtain ⟨rfl, e4, h4, f4⟩ := hp
    rw [e4]
    generalize hR : par b len key 70 0 (adv b len (adv b len Ps0)) = Rr at h4 gk
    have f34 := f3.tr f4
    have fr4 : FrR q mi m4 := ⟨fun a g1 g2 => by rw [f34.1 a g1 g2]; exact fr2.1 a g1 g2, by rw [f34.2.1]; exact fr2.2⟩
    have e54 : m4 q 5 = nI key := by rw [f4.2.2, e53]
    refine mw_if_eqB (tgt := 70) dX3_readText_60 (by decide) (fun h60 => ?_) (fun h60 => ?_)
    · skip
      refine mw_null dX3_readText_70 ?_
      exact mw_aret dX3_readText_71 rfl (by simp) (by simp) (by decide) (by decide) (Or.inl ⟨_, by rw [rdT, if_neg nk, ek, hR, if_neg (fun g => h60 g.1)], rfl, rfl, h4.1, fr4⟩)
    skip
    refine mw_aload_n dX3_readText_63 rfl ?_
    refine mw_geti dX3_readText_64 fl_X3_25 rfl (by assumption) ?_
    rw [h4.2.2.1]
    refine mw_if_eq (tgt := 72) dX3_readText_67 (by decide) (fun h67 => ?_) (fun h67 => ?_)
    · skip
      have hs0 : Rr.2.1.2.2 = 0 := (nI_eq (b := 0) (by have := gk.1.2.2.1; omega) (by decide)).mp h67
      have hrd : rdT b len = .inr (key, Rr.2) := by rw [rdT, if_neg nk, ek, hR, if_pos (And.intro h60 hs0)]
      have c96 : Rr.2.2.2.length ≤ 96 := gk.1.2.2.2.2.2.1
      have q1 := k_q.1
      have q3 := k_q_steps.1
      have kq2 : Kd (nwS S 4 0) q 3 0 := Kd_nw k_q
      have rq2 : (nwS S 4 0).2.2 q 9 = some (q + 2) := (nw_r q1 9).trans r_q_steps
      have nq : nwM S m4 q = m4 q := nw_m q1
      refine mw_new (ci := 4) dX3_readText_72 rfl cl_X3_54 (by decide) (by decide) ?_
      refine mw_dup dX3_readText_75 rfl ?_
      refine mw_aload_n dX3_readText_76 rfl ?_
      refine mw_geti dX3_readText_77 fl_X3_47 rfl (kq2) ?_
      rw [nq, e54]
      refine mw_aload_n dX3_readText_80 rfl ?_
      refine mw_geti dX3_readText_81 fl_X3_34 rfl (kq2) ?_
      rw [nq, h4.2.2.2.2.2.1]
      refine mw_aload_n dX3_readText_84 rfl ?_
      refine mw_getr dX3_readText_85 fl_X3_15 rfl (kq2) (rq2) ?_
      refine mw_aload_n dX3_readText_88 rfl ?_
      refine mw_geti dX3_readText_89 fl_X3_37 rfl (kq2) ?_
      rw [nq, h4.2.2.2.2.2.2.1]
      refine mw_callI (g := fX4_init) dX3_readText_92 ml_X3_56 mfX4_init (ok_X4_init (Kd_nw0 S 4 0) (Kd_nw k_q_steps) c96) rfl rfl (Nat.le_of_ble_eq_true rfl) ⟨by decide, by decide⟩ ⟨by decide, by decide⟩ (fun r S5 m5 hp => ?_)
      obtain ⟨rfl, e6, e7⟩ := hp
      rw [e6, e7]
      refine mw_aret dX3_readText_95 rfl (by simp) (by simp) (by decide) (by decide) (Or.inr ⟨key, Rr.2, hrd, k3, c96, rfl, NwT_mk S _, ?_, ?_, ?_, ?_, ?_⟩)
      · simp [m_cpy, nwM, nwS, m_up]
      · simp [m_cpy, nwM, nwS, m_up]
      · intro j hj
        have g := h4.2.2.2.2.2.2.2 j hj
        have n1 : q + 2 ≠ S.1 + 1 := by omega
        have n2 : q + 2 ≠ S.1 := by omega
        simp only [m_cpy, nwM, nwS, true_and, Nat.zero_le, Nat.zero_add, hj, if_true, Nat.sub_zero, n1, if_false]
        rw [m_up_ne n2, m_up_ne n2, nw_m q3]
        exact g
      · intro a ha g1 g2
        funext k
        have n1 : a ≠ S.1 + 1 := by omega
        have n2 : a ≠ S.1 := by omega
        simp only [m_cpy, nwM, nwS, n1, false_and, if_false]
        rw [m_up_ne n2, m_up_ne n2, nw_m ha]
        exact congrFun (fr4.1 a g1 g2) k
      · have n1 : q ≠ S.1 + 1 := by omega
        have n2 : q ≠ S.1 := by omega
        simp only [m_cpy, nwM, nwS, n1, false_and, if_false]
        rw [m_up_ne n2, m_up_ne n2, nw_m q1]
        exact fr4.2
    · skip
      refine mw_null dX3_readText_70 ?_
      exact mw_aret dX3_readText_71 rfl (by simp) (by simp) (by decide) (by decide) (Or.inl ⟨_, by rw [rdT, if_neg nk, ek, hR, if_neg (fun g => h67 (by rw [g.2]; rfl))], rfl, rfl, h4.1, fr4⟩)
  · skip
    refine mw_null dX3_readText_49 ?_
    exact mw_aret dX3_readText_50 rfl (by simp) (by simp) (by decide) (by decide) (Or.inl ⟨_, by rw [rdT, if_pos (Int32.not_le.mp h46)], rfl, rfl, h2.1, fr2⟩)
theorem dX5_addText_0 : decode fX5_addText.2.1 0 = .ok (.aload_n 0, 1) := by decide +kernel
theorem dX5_addText_1 : decode fX5_addText.2.1 1 = .ok (.getfield 81, 3) := by decide +kernel
theorem dX5_addText_4 : decode fX5_addText.2.1 4 = .ok (.bipush 14, 2) := by decide +kernel
theorem dX5_addText_6 : decode fX5_addText.2.1 6 = .ok (.if_icmp .lt 6, 3) := by decide +kernel
theorem dX5_addText_9 : decode fX5_addText.2.1 9 = .ok (.ldc 84, 2) := by decide +kernel
theorem dX5_addText_11 : decode fX5_addText.2.1 11 = .ok (.ireturn, 1) := by decide +kernel
theorem dX5_addText_12 : decode fX5_addText.2.1 12 = .ok (.aload_n 0, 1) := by decide +kernel
theorem dX5_addText_13 : decode fX5_addText.2.1 13 = .ok (.getfield 36, 3) := by decide +kernel
theorem dX5_addText_16 : decode fX5_addText.2.1 16 = .ok (.aload_n 0, 1) := by decide +kernel
theorem dX5_addText_17 : decode fX5_addText.2.1 17 = .ok (.getfield 81, 3) := by decide +kernel
theorem dX5_addText_20 : decode fX5_addText.2.1 20 = .ok (.aload_n 1, 1) := by decide +kernel
theorem dX5_addText_21 : decode fX5_addText.2.1 21 = .ok (.aastore, 1) := by decide +kernel
theorem dX5_addText_22 : decode fX5_addText.2.1 22 = .ok (.aload_n 0, 1) := by decide +kernel
theorem dX5_addText_23 : decode fX5_addText.2.1 23 = .ok (.getfield 40, 3) := by decide +kernel
theorem dX5_addText_26 : decode fX5_addText.2.1 26 = .ok (.aload_n 1, 1) := by decide +kernel
theorem dX5_addText_27 : decode fX5_addText.2.1 27 = .ok (.getfield 97, 3) := by decide +kernel
theorem dX5_addText_30 : decode fX5_addText.2.1 30 = .ok (.aload_n 0, 1) := by decide +kernel
theorem dX5_addText_31 : decode fX5_addText.2.1 31 = .ok (.getfield 81, 3) := by decide +kernel
theorem dX5_addText_34 : decode fX5_addText.2.1 34 = .ok (.iastore, 1) := by decide +kernel
theorem dX5_addText_35 : decode fX5_addText.2.1 35 = .ok (.aload_n 0, 1) := by decide +kernel
theorem dX5_addText_36 : decode fX5_addText.2.1 36 = .ok (.dup, 1) := by decide +kernel
theorem dX5_addText_37 : decode fX5_addText.2.1 37 = .ok (.getfield 81, 3) := by decide +kernel
theorem dX5_addText_40 : decode fX5_addText.2.1 40 = .ok (.iconst 1, 1) := by decide +kernel
theorem dX5_addText_41 : decode fX5_addText.2.1 41 = .ok (.iadd, 1) := by decide +kernel
theorem dX5_addText_42 : decode fX5_addText.2.1 42 = .ok (.putfield 81, 3) := by decide +kernel
theorem dX5_addText_45 : decode fX5_addText.2.1 45 = .ok (.aload_n 0, 1) := by decide +kernel
theorem dX5_addText_46 : decode fX5_addText.2.1 46 = .ok (.getfield 81, 3) := by decide +kernel
theorem dX5_addText_49 : decode fX5_addText.2.1 49 = .ok (.iconst 1, 1) := by decide +kernel
theorem dX5_addText_50 : decode fX5_addText.2.1 50 = .ok (.isub, 1) := by decide +kernel
theorem dX5_addText_51 : decode fX5_addText.2.1 51 = .ok (.ireturn, 1) := by decide +kernel
set_option maxRecDepth 100000 in
set_option maxHeartbeats 4000000 in
theorem ok_X5_addText {X : Xb} {S : Sg} {mi : Mem} {t p c key : Nat} (hT : TwA S t) (hp : Kd S p 4 0) (hk : mi p 0 = nI key) (hk3 : key < 3) (hc : mi t 13 = nI c) (hc14 : c ≤ 14) : Ok 0 0 0 fX5_addText X [rf X t, rf X p] S mi (fun r S' m => (c = 14 ∧ r = some (.int FULLi) ∧ S' = S ∧ m = mi) ∨ (c < 14 ∧ r = some (.int (nI c)) ∧ S' = (S.1, S.2.1, r_up S.2.2 (t + 4) c (some p)) ∧ m = m_up (m_up mi (t + 5) key (nI c)) t 13 (nI (c + 1)))) := by
  refine Ok.go [some (rf X t), some (rf X p)] (by decide) (by simp [Value.category]) (Nat.le_of_ble_eq_true rfl) rfl ?_
  obtain ⟨k_t, ⟨r_t_home, k_t_home⟩, ⟨r_t_price, k_t_price⟩, ⟨r_t_attics, k_t_attics⟩, ⟨r_t_texts, k_t_texts⟩, ⟨r_t_counting, k_t_counting⟩, ⟨r_t_names, k_t_names⟩, ⟨r_t_pile, k_t_pile⟩, ⟨r_t_views, k_t_views⟩, a_t⟩ := id hT
  have nt4 : t ≠ t + 4 := by omega
  have np : p ≠ t + 4 := Kd_ne hp k_t_texts (by decide)
  refine mw_aload_n dX5_addText_0 rfl ?_
  refine mw_geti dX5_addText_1 fl_X5_81 rfl (by assumption) ?_
  rw [hc]
  refine mw_bipush (v := 14) dX5_addText_4 (by decide) ?_
  refine mw_icmp_lt (tgt := 12) dX5_addText_6 (by decide) (fun h6 => ?_) (fun h6 => ?_)
  · skip
    have c14 : c < 14 := (nI_ltI (b := 14) (by omega) (by decide)).mp h6
    refine mw_aload_n dX5_addText_12 rfl ?_
    refine mw_getr dX5_addText_13 fl_X5_36 rfl (by assumption) (by assumption) ?_
    refine mw_aload_n dX5_addText_16 rfl ?_
    refine mw_geti dX5_addText_17 fl_X5_81 rfl (by assumption) ?_
    rw [hc]
    refine mw_aload_n dX5_addText_20 rfl ?_
    refine mw_aast (t0 := 6) dX5_addText_21 k_t_texts hp (by simp [aTy]) (vp_in_nI c14 (by decide)) ?_
    rw [nI_clamp (by omega)]
    have kt2 : Kd (S.1, S.2.1, r_up S.2.2 (t + 4) c (some p)) t 5 0 := k_t
    have kc2 : Kd (S.1, S.2.1, r_up S.2.2 (t + 4) c (some p)) (t + 5) 8 3 := k_t_counting
    have kp2 : Kd (S.1, S.2.1, r_up S.2.2 (t + 4) c (some p)) p 4 0 := hp
    have rc2 : r_up S.2.2 (t + 4) c (some p) t 14 = some (t + 5) := by simp only [r_up, nt4, false_and, if_false]; exact r_t_counting
    refine mw_aload_n dX5_addText_22 rfl ?_
    refine mw_getr dX5_addText_23 fl_X5_40 rfl (kt2) (rc2) ?_
    refine mw_aload_n dX5_addText_26 rfl ?_
    refine mw_geti dX5_addText_27 fl_X5_97 rfl (kp2) ?_
    rw [hk]
    refine mw_aload_n dX5_addText_30 rfl ?_
    refine mw_geti dX5_addText_31 fl_X5_81 rfl (kt2) ?_
    rw [hc]
    refine mw_iastK (k := key) dX5_addText_34 (kc2) (rfl) (hk3) (by decide) ?_
    refine mw_aload_n dX5_addText_35 rfl ?_
    refine mw_dup dX5_addText_36 rfl ?_
    refine mw_geti dX5_addText_37 fl_X5_81 rfl (kt2) ?_
    rw [m_up_ne (show t ≠ t + 5 by omega), hc]
    refine mw_iconst (v := 1) dX5_addText_40 (by decide) ?_
    refine mw_iadd dX5_addText_41 ?_
    rw [nI_1]
    refine mw_puti dX5_addText_42 fl_X5_81 ft_5_13 rfl (rfl) rfl (kt2) ?_
    refine mw_aload_n dX5_addText_45 rfl ?_
    refine mw_geti dX5_addText_46 fl_X5_81 rfl (kt2) ?_
    rw [m_up_at]
    refine mw_iconst (v := 1) dX5_addText_49 (by decide) ?_
    refine mw_isub dX5_addText_50 ?_
    rw [nI_pred]
    exact mw_iret dX5_addText_51 rfl (by decide) (by decide) (Or.inr ⟨c14, rfl, rfl, rfl⟩)
  · skip
    refine mw_ldc dX5_addText_9 cn_X5_84 ?_
    exact mw_iret dX5_addText_11 rfl (by decide) (by decide) (Or.inl ⟨by rcases Nat.lt_or_ge c 14 with g | g; exact absurd (nI_lt (b := 14) g (by decide)) h6; omega, rfl, rfl, rfl⟩)
