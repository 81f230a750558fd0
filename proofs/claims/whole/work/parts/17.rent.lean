/-! Town: rent -/
def jb1 (x : Int32) : Int32 := x - (jus x 1 &&& 1431655765)
def jb2 (x : Int32) : Int32 := (x &&& 858993459) + (jus x 2 &&& 858993459)
def jb3 (x : Int32) : Int32 := (x + jus x 4) &&& 252645135
def jb4 (x : Int32) : Int32 := x + jus x 8
def jb5 (x : Int32) : Int32 := x + jus x 16
def jBits (x : Int32) : Int32 := jb5 (jb4 (jb3 (jb2 (jb1 x)))) &&& 63
theorem dJ6_bitCount_0f7a4_0 : decode fJ6_bitCount_0f7a4.2.1 0 = .ok (.iload_n 0, 1) := by decide +kernel
theorem dJ6_bitCount_0f7a4_1 : decode fJ6_bitCount_0f7a4.2.1 1 = .ok (.iload_n 0, 1) := by decide +kernel
theorem dJ6_bitCount_0f7a4_2 : decode fJ6_bitCount_0f7a4.2.1 2 = .ok (.iconst 1, 1) := by decide +kernel
theorem dJ6_bitCount_0f7a4_3 : decode fJ6_bitCount_0f7a4.2.1 3 = .ok (.iushr, 1) := by decide +kernel
theorem dJ6_bitCount_0f7a4_4 : decode fJ6_bitCount_0f7a4.2.1 4 = .ok (.ldc_w 265, 3) := by decide +kernel
theorem dJ6_bitCount_0f7a4_7 : decode fJ6_bitCount_0f7a4.2.1 7 = .ok (.iand, 1) := by decide +kernel
theorem dJ6_bitCount_0f7a4_8 : decode fJ6_bitCount_0f7a4.2.1 8 = .ok (.isub, 1) := by decide +kernel
theorem dJ6_bitCount_0f7a4_9 : decode fJ6_bitCount_0f7a4.2.1 9 = .ok (.istore_n 0, 1) := by decide +kernel
theorem dJ6_bitCount_0f7a4_10 : decode fJ6_bitCount_0f7a4.2.1 10 = .ok (.iload_n 0, 1) := by decide +kernel
theorem dJ6_bitCount_0f7a4_11 : decode fJ6_bitCount_0f7a4.2.1 11 = .ok (.ldc_w 266, 3) := by decide +kernel
theorem dJ6_bitCount_0f7a4_14 : decode fJ6_bitCount_0f7a4.2.1 14 = .ok (.iand, 1) := by decide +kernel
theorem dJ6_bitCount_0f7a4_15 : decode fJ6_bitCount_0f7a4.2.1 15 = .ok (.iload_n 0, 1) := by decide +kernel
theorem dJ6_bitCount_0f7a4_16 : decode fJ6_bitCount_0f7a4.2.1 16 = .ok (.iconst 2, 1) := by decide +kernel
theorem dJ6_bitCount_0f7a4_17 : decode fJ6_bitCount_0f7a4.2.1 17 = .ok (.iushr, 1) := by decide +kernel
theorem dJ6_bitCount_0f7a4_18 : decode fJ6_bitCount_0f7a4.2.1 18 = .ok (.ldc_w 266, 3) := by decide +kernel
theorem dJ6_bitCount_0f7a4_21 : decode fJ6_bitCount_0f7a4.2.1 21 = .ok (.iand, 1) := by decide +kernel
theorem dJ6_bitCount_0f7a4_22 : decode fJ6_bitCount_0f7a4.2.1 22 = .ok (.iadd, 1) := by decide +kernel
theorem dJ6_bitCount_0f7a4_23 : decode fJ6_bitCount_0f7a4.2.1 23 = .ok (.istore_n 0, 1) := by decide +kernel
theorem dJ6_bitCount_0f7a4_24 : decode fJ6_bitCount_0f7a4.2.1 24 = .ok (.iload_n 0, 1) := by decide +kernel
theorem dJ6_bitCount_0f7a4_25 : decode fJ6_bitCount_0f7a4.2.1 25 = .ok (.iload_n 0, 1) := by decide +kernel
theorem dJ6_bitCount_0f7a4_26 : decode fJ6_bitCount_0f7a4.2.1 26 = .ok (.iconst 4, 1) := by decide +kernel
theorem dJ6_bitCount_0f7a4_27 : decode fJ6_bitCount_0f7a4.2.1 27 = .ok (.iushr, 1) := by decide +kernel
theorem dJ6_bitCount_0f7a4_28 : decode fJ6_bitCount_0f7a4.2.1 28 = .ok (.iadd, 1) := by decide +kernel
theorem dJ6_bitCount_0f7a4_29 : decode fJ6_bitCount_0f7a4.2.1 29 = .ok (.ldc_w 267, 3) := by decide +kernel
theorem dJ6_bitCount_0f7a4_32 : decode fJ6_bitCount_0f7a4.2.1 32 = .ok (.iand, 1) := by decide +kernel
theorem dJ6_bitCount_0f7a4_33 : decode fJ6_bitCount_0f7a4.2.1 33 = .ok (.istore_n 0, 1) := by decide +kernel
theorem dJ6_bitCount_0f7a4_34 : decode fJ6_bitCount_0f7a4.2.1 34 = .ok (.iload_n 0, 1) := by decide +kernel
theorem dJ6_bitCount_0f7a4_35 : decode fJ6_bitCount_0f7a4.2.1 35 = .ok (.iload_n 0, 1) := by decide +kernel
theorem dJ6_bitCount_0f7a4_36 : decode fJ6_bitCount_0f7a4.2.1 36 = .ok (.bipush 8, 2) := by decide +kernel
theorem dJ6_bitCount_0f7a4_38 : decode fJ6_bitCount_0f7a4.2.1 38 = .ok (.iushr, 1) := by decide +kernel
theorem dJ6_bitCount_0f7a4_39 : decode fJ6_bitCount_0f7a4.2.1 39 = .ok (.iadd, 1) := by decide +kernel
theorem dJ6_bitCount_0f7a4_40 : decode fJ6_bitCount_0f7a4.2.1 40 = .ok (.istore_n 0, 1) := by decide +kernel
theorem dJ6_bitCount_0f7a4_41 : decode fJ6_bitCount_0f7a4.2.1 41 = .ok (.iload_n 0, 1) := by decide +kernel
theorem dJ6_bitCount_0f7a4_42 : decode fJ6_bitCount_0f7a4.2.1 42 = .ok (.iload_n 0, 1) := by decide +kernel
theorem dJ6_bitCount_0f7a4_43 : decode fJ6_bitCount_0f7a4.2.1 43 = .ok (.bipush 16, 2) := by decide +kernel
theorem dJ6_bitCount_0f7a4_45 : decode fJ6_bitCount_0f7a4.2.1 45 = .ok (.iushr, 1) := by decide +kernel
theorem dJ6_bitCount_0f7a4_46 : decode fJ6_bitCount_0f7a4.2.1 46 = .ok (.iadd, 1) := by decide +kernel
theorem dJ6_bitCount_0f7a4_47 : decode fJ6_bitCount_0f7a4.2.1 47 = .ok (.istore_n 0, 1) := by decide +kernel
theorem dJ6_bitCount_0f7a4_48 : decode fJ6_bitCount_0f7a4.2.1 48 = .ok (.iload_n 0, 1) := by decide +kernel
theorem dJ6_bitCount_0f7a4_49 : decode fJ6_bitCount_0f7a4.2.1 49 = .ok (.bipush 63, 2) := by decide +kernel
theorem dJ6_bitCount_0f7a4_51 : decode fJ6_bitCount_0f7a4.2.1 51 = .ok (.iand, 1) := by decide +kernel
theorem dJ6_bitCount_0f7a4_52 : decode fJ6_bitCount_0f7a4.2.1 52 = .ok (.ireturn, 1) := by decide +kernel
set_option maxRecDepth 100000 in
set_option maxHeartbeats 4000000 in
theorem ok_J6_bitCount_0f7a4 {X : Xb} {S : Sg} {mi : Mem} {x : Int32} : OkI 0 fJ6_bitCount_0f7a4 X [.int x] S mi (jBits x) mi := by
  refine Ok.go [some (.int x)] (by decide) (by simp [Value.category]) (Nat.le_of_ble_eq_true rfl) rfl ?_
  refine mw_iload_n dJ6_bitCount_0f7a4_0 rfl ?_
  refine mw_iload_n dJ6_bitCount_0f7a4_1 rfl ?_
  refine mw_iconst (v := 1) dJ6_bitCount_0f7a4_2 (by decide) ?_
  refine mw_iushr dJ6_bitCount_0f7a4_3 ?_
  refine mw_ldcw dJ6_bitCount_0f7a4_4 cn_J6_265 ?_
  refine mw_iand dJ6_bitCount_0f7a4_7 ?_
  refine mw_isub dJ6_bitCount_0f7a4_8 ?_
  refine mw_istN 0 dJ6_bitCount_0f7a4_9 rfl (by decide) ?_
  refine mw_iload_n dJ6_bitCount_0f7a4_10 rfl ?_
  refine mw_ldcw dJ6_bitCount_0f7a4_11 cn_J6_266 ?_
  refine mw_iand dJ6_bitCount_0f7a4_14 ?_
  refine mw_iload_n dJ6_bitCount_0f7a4_15 rfl ?_
  refine mw_iconst (v := 2) dJ6_bitCount_0f7a4_16 (by decide) ?_
  refine mw_iushr dJ6_bitCount_0f7a4_17 ?_
  refine mw_ldcw dJ6_bitCount_0f7a4_18 cn_J6_266 ?_
  refine mw_iand dJ6_bitCount_0f7a4_21 ?_
  refine mw_iadd dJ6_bitCount_0f7a4_22 ?_
  refine mw_istN 0 dJ6_bitCount_0f7a4_23 rfl (by decide) ?_
  refine mw_iload_n dJ6_bitCount_0f7a4_24 rfl ?_
  refine mw_iload_n dJ6_bitCount_0f7a4_25 rfl ?_
  refine mw_iconst (v := 4) dJ6_bitCount_0f7a4_26 (by decide) ?_
  refine mw_iushr dJ6_bitCount_0f7a4_27 ?_
  refine mw_iadd dJ6_bitCount_0f7a4_28 ?_
  refine mw_ldcw dJ6_bitCount_0f7a4_29 cn_J6_267 ?_
  refine mw_iand dJ6_bitCount_0f7a4_32 ?_
  refine mw_istN 0 dJ6_bitCount_0f7a4_33 rfl (by decide) ?_
  refine mw_iload_n dJ6_bitCount_0f7a4_34 rfl ?_
  refine mw_iload_n dJ6_bitCount_0f7a4_35 rfl ?_
  refine mw_bipush (v := 8) dJ6_bitCount_0f7a4_36 (by decide) ?_
  refine mw_iushr dJ6_bitCount_0f7a4_38 ?_
  refine mw_iadd dJ6_bitCount_0f7a4_39 ?_
  refine mw_istN 0 dJ6_bitCount_0f7a4_40 rfl (by decide) ?_
  refine mw_iload_n dJ6_bitCount_0f7a4_41 rfl ?_
  refine mw_iload_n dJ6_bitCount_0f7a4_42 rfl ?_
  refine mw_bipush (v := 16) dJ6_bitCount_0f7a4_43 (by decide) ?_
  refine mw_iushr dJ6_bitCount_0f7a4_45 ?_
  refine mw_iadd dJ6_bitCount_0f7a4_46 ?_
  refine mw_istN 0 dJ6_bitCount_0f7a4_47 rfl (by decide) ?_
  refine mw_iload_n dJ6_bitCount_0f7a4_48 rfl ?_
  refine mw_bipush (v := 63) dJ6_bitCount_0f7a4_49 (by decide) ?_
  refine mw_iand dJ6_bitCount_0f7a4_51 ?_
  exact mw_iret dJ6_bitCount_0f7a4_52 rfl (by decide) (by decide) (⟨rfl, rfl, rfl⟩)
theorem Kd_ne {S : Sg} {a b c c' z z' : Nat} (h : Kd S a c z) (h' : Kd S b c' z') (hc : c ≠ c') : a ≠ b := fun e => by
  subst e
  have := h.2.symm.trans h'.2
  exact hc (congrArg Prod.fst this)
def TxA (S : Sg) (p len : Nat) : Prop := Kd S p 4 0 ∧ S.2.2 p 2 = some (p + 1) ∧ Kd S (p + 1) 8 len ∧ len < 97
def txOf (S : Sg) (mi : Mem) (t j : Nat) : Option Nat := if 0 ≤ mi (t + 5) j ∧ mi (t + 5) j ≤ 13 then S.2.2 (t + 4) (mi (t + 5) j).toNatClampNeg else none
theorem in13 {x : Int32} (h : 0 ≤ x ∧ x ≤ 13) : vp_in x 14 := by
  rw [vp_in_iff]
  have e1 := Int32.le_iff_toInt_le.mp h.1
  have e2 := Int32.le_iff_toInt_le.mp h.2
  have c1 : (0 : Int32).toInt = 0 := by decide
  have c2 : (13 : Int32).toInt = 13 := by decide
  rw [c1] at e1; rw [c2] at e2
  omega
theorem va_rf_c (o : Option Nat) : va_rf o = .null ∨ ∃ a, va_rf o = .ref a := by cases o <;> simp [va_rf]
theorem dX5_textFor_0 : decode fX5_textFor.2.1 0 = .ok (.aload_n 0, 1) := by decide +kernel
theorem dX5_textFor_1 : decode fX5_textFor.2.1 1 = .ok (.getfield 40, 3) := by decide +kernel
theorem dX5_textFor_4 : decode fX5_textFor.2.1 4 = .ok (.iload_n 1, 1) := by decide +kernel
theorem dX5_textFor_5 : decode fX5_textFor.2.1 5 = .ok (.iaload, 1) := by decide +kernel
theorem dX5_textFor_6 : decode fX5_textFor.2.1 6 = .ok (.istore_n 2, 1) := by decide +kernel
theorem dX5_textFor_7 : decode fX5_textFor.2.1 7 = .ok (.iload_n 2, 1) := by decide +kernel
theorem dX5_textFor_8 : decode fX5_textFor.2.1 8 = .ok (.iconst 0, 1) := by decide +kernel
theorem dX5_textFor_9 : decode fX5_textFor.2.1 9 = .ok (.bipush 13, 2) := by decide +kernel
theorem dX5_textFor_11 : decode fX5_textFor.2.1 11 = .ok (.invokestatic 113, 3) := by decide +kernel
theorem dX5_textFor_14 : decode fX5_textFor.2.1 14 = .ok (.ifCond .eq 12, 3) := by decide +kernel
theorem dX5_textFor_17 : decode fX5_textFor.2.1 17 = .ok (.aload_n 0, 1) := by decide +kernel
theorem dX5_textFor_18 : decode fX5_textFor.2.1 18 = .ok (.getfield 36, 3) := by decide +kernel
theorem dX5_textFor_21 : decode fX5_textFor.2.1 21 = .ok (.iload_n 2, 1) := by decide +kernel
theorem dX5_textFor_22 : decode fX5_textFor.2.1 22 = .ok (.aaload, 1) := by decide +kernel
theorem dX5_textFor_23 : decode fX5_textFor.2.1 23 = .ok (.goto 4, 3) := by decide +kernel
theorem dX5_textFor_26 : decode fX5_textFor.2.1 26 = .ok (.aconst_null, 1) := by decide +kernel
theorem dX5_textFor_27 : decode fX5_textFor.2.1 27 = .ok (.areturn, 1) := by decide +kernel
set_option maxRecDepth 100000 in
set_option maxHeartbeats 4000000 in
theorem ok_X5_textFor {X : Xb} {S : Sg} {mi : Mem} {t j : Nat} (hT : TwA S t) (hj : j < 3) : Ok 1 0 0 fX5_textFor X [rf X t, .int (nI j)] S mi (fun r S' mi' => r = some (va_rf ((txOf S mi t j).map (X.1 + ·))) ∧ S' = S ∧ mi' = mi) := by
  refine Ok.go [some (rf X t), some (.int (nI j)), none] (by decide) (by simp [Value.category]) (Nat.le_of_ble_eq_true rfl) rfl ?_
  obtain ⟨k_t, ⟨r_t_home, k_t_home⟩, ⟨r_t_price, k_t_price⟩, ⟨r_t_attics, k_t_attics⟩, ⟨r_t_texts, k_t_texts⟩, ⟨r_t_counting, k_t_counting⟩, ⟨r_t_names, k_t_names⟩, ⟨r_t_pile, k_t_pile⟩, ⟨r_t_views, k_t_views⟩, a_t⟩ := id hT
  refine mw_aload_n dX5_textFor_0 rfl ?_
  refine mw_getr dX5_textFor_1 fl_X5_40 rfl (by assumption) (by assumption) ?_
  refine mw_iload_n dX5_textFor_4 rfl ?_
  refine mw_ialdK (k := j) dX5_textFor_5 (by assumption) (rfl) (hj) (by decide) ?_
  refine mw_istN 2 dX5_textFor_6 rfl (by decide) ?_
  refine mw_iload_n dX5_textFor_7 rfl ?_
  refine mw_iconst (v := 0) dX5_textFor_8 (by decide) ?_
  refine mw_bipush (v := 13) dX5_textFor_9 (by decide) ?_
  refine mw_cSNI (g := fX6_within) dX5_textFor_11 nl_X5_113 mfX6_within (ok_X6_within) rfl rfl (Nat.le_of_ble_eq_true rfl) ⟨by decide, by decide⟩ ⟨by decide, by decide⟩ ?_
  refine mw_if_eqB (tgt := 26) dX5_textFor_14 (by decide) (fun h14 => ?_) (fun h14 => ?_)
  · skip
    refine mw_null dX5_textFor_26 ?_
    exact mw_aret dX5_textFor_27 rfl (by simp) (by simp) (by decide) (by decide) (⟨by simp [txOf, h14, va_rf], rfl, rfl⟩)
  · skip
    refine mw_aload_n dX5_textFor_17 rfl ?_
    refine mw_getr dX5_textFor_18 fl_X5_36 rfl (by assumption) (by assumption) ?_
    refine mw_iload_n dX5_textFor_21 rfl ?_
    refine mw_aldv dX5_textFor_22 (by assumption) (by decide) (in13 h14) ?_
    refine mw_goto (tgt := 27) dX5_textFor_23 (by decide) ?_
    exact mw_aret dX5_textFor_27 rfl (by simp) (va_rf_c _) (by decide) (by decide) ⟨by simp [txOf, h14], rfl, rfl⟩ --end
/-- only the town's scratch rows may differ -/
def Scr (t : Nat) (mi mi' : Mem) : Prop := ∀ a, a ≠ t + 6 → a ≠ t + 7 → mi' a = mi a
theorem Scr.rf (t : Nat) (mi : Mem) : Scr t mi mi := fun _ _ _ => rfl
theorem Scr.tr {t : Nat} {a b c : Mem} (h : Scr t a b) (k : Scr t b c) : Scr t a c := fun x h1 h2 => (k x h1 h2).trans (h x h1 h2)
def cPrices (price : Nat → Int32) (seen : Int32) : Int32 := fld (fun s k => s + (seen >>> (nI k &&& 31) &&& 1) * price k) 0 8
def c4 (a b c d : Int32) : Nat → Int32 := fun j => if j = 3 then d else if j = 2 then c else if j = 1 then b else a
/-- the plain rent, out of the scratch rows' contents -/
def cPlain (S : Sg) (mi : Mem) (t q : Nat) (seen : Int32) (nm0 pile : Nat → Int32) : Int32 := match txOf S mi t 0 with
  | none => cPrices (mi (t + 2)) seen
  | some p => maxI 0 (minI 9999 ((gRun (upd (upd (upd (upd nm0 0 (cPrices (mi (t + 2)) seen)) 1 (jBits seen)) 2 (mi t 10)) 3 (sWide (mi t 10) (mi q 0) (mi q 2))) (mi (p + 1)) pile (S.2.1 (p + 1)).2).2 0))
theorem dX5_plainRentOf_0 : decode fX5_plainRentOf.2.1 0 = .ok (.iconst 0, 1) := by decide +kernel
theorem dX5_plainRentOf_1 : decode fX5_plainRentOf.2.1 1 = .ok (.istore_n 3, 1) := by decide +kernel
theorem dX5_plainRentOf_2 : decode fX5_plainRentOf.2.1 2 = .ok (.iconst 0, 1) := by decide +kernel
theorem dX5_plainRentOf_3 : decode fX5_plainRentOf.2.1 3 = .ok (.istore 4, 2) := by decide +kernel
theorem dX5_plainRentOf_5 : decode fX5_plainRentOf.2.1 5 = .ok (.iload 4, 2) := by decide +kernel
theorem dX5_plainRentOf_7 : decode fX5_plainRentOf.2.1 7 = .ok (.bipush 8, 2) := by decide +kernel
theorem dX5_plainRentOf_9 : decode fX5_plainRentOf.2.1 9 = .ok (.if_icmp .ge 26, 3) := by decide +kernel
theorem dX5_plainRentOf_12 : decode fX5_plainRentOf.2.1 12 = .ok (.iload_n 3, 1) := by decide +kernel
theorem dX5_plainRentOf_13 : decode fX5_plainRentOf.2.1 13 = .ok (.iload_n 2, 1) := by decide +kernel
theorem dX5_plainRentOf_14 : decode fX5_plainRentOf.2.1 14 = .ok (.iload 4, 2) := by decide +kernel
theorem dX5_plainRentOf_16 : decode fX5_plainRentOf.2.1 16 = .ok (.ishr, 1) := by decide +kernel
theorem dX5_plainRentOf_17 : decode fX5_plainRentOf.2.1 17 = .ok (.iconst 1, 1) := by decide +kernel
theorem dX5_plainRentOf_18 : decode fX5_plainRentOf.2.1 18 = .ok (.iand, 1) := by decide +kernel
theorem dX5_plainRentOf_19 : decode fX5_plainRentOf.2.1 19 = .ok (.aload_n 0, 1) := by decide +kernel
theorem dX5_plainRentOf_20 : decode fX5_plainRentOf.2.1 20 = .ok (.getfield 15, 3) := by decide +kernel
theorem dX5_plainRentOf_23 : decode fX5_plainRentOf.2.1 23 = .ok (.iload 4, 2) := by decide +kernel
theorem dX5_plainRentOf_25 : decode fX5_plainRentOf.2.1 25 = .ok (.iaload, 1) := by decide +kernel
theorem dX5_plainRentOf_26 : decode fX5_plainRentOf.2.1 26 = .ok (.imul, 1) := by decide +kernel
theorem dX5_plainRentOf_27 : decode fX5_plainRentOf.2.1 27 = .ok (.iadd, 1) := by decide +kernel
theorem dX5_plainRentOf_28 : decode fX5_plainRentOf.2.1 28 = .ok (.istore_n 3, 1) := by decide +kernel
theorem dX5_plainRentOf_29 : decode fX5_plainRentOf.2.1 29 = .ok (.iinc 4 1, 3) := by decide +kernel
theorem dX5_plainRentOf_32 : decode fX5_plainRentOf.2.1 32 = .ok (.goto (-27), 3) := by decide +kernel
theorem dX5_plainRentOf_35 : decode fX5_plainRentOf.2.1 35 = .ok (.aload_n 0, 1) := by decide +kernel
theorem dX5_plainRentOf_36 : decode fX5_plainRentOf.2.1 36 = .ok (.iconst 0, 1) := by decide +kernel
theorem dX5_plainRentOf_37 : decode fX5_plainRentOf.2.1 37 = .ok (.invokevirtual 161, 3) := by decide +kernel
theorem dX5_plainRentOf_40 : decode fX5_plainRentOf.2.1 40 = .ok (.astore 4, 2) := by decide +kernel
theorem dX5_plainRentOf_42 : decode fX5_plainRentOf.2.1 42 = .ok (.aload 4, 2) := by decide +kernel
theorem dX5_plainRentOf_44 : decode fX5_plainRentOf.2.1 44 = .ok (.ifnonnull 5, 3) := by decide +kernel
theorem dX5_plainRentOf_47 : decode fX5_plainRentOf.2.1 47 = .ok (.iload_n 3, 1) := by decide +kernel
theorem dX5_plainRentOf_48 : decode fX5_plainRentOf.2.1 48 = .ok (.ireturn, 1) := by decide +kernel
theorem dX5_plainRentOf_49 : decode fX5_plainRentOf.2.1 49 = .ok (.aload_n 0, 1) := by decide +kernel
theorem dX5_plainRentOf_50 : decode fX5_plainRentOf.2.1 50 = .ok (.getfield 43, 3) := by decide +kernel
theorem dX5_plainRentOf_53 : decode fX5_plainRentOf.2.1 53 = .ok (.iconst 0, 1) := by decide +kernel
theorem dX5_plainRentOf_54 : decode fX5_plainRentOf.2.1 54 = .ok (.iload_n 3, 1) := by decide +kernel
theorem dX5_plainRentOf_55 : decode fX5_plainRentOf.2.1 55 = .ok (.iastore, 1) := by decide +kernel
theorem dX5_plainRentOf_56 : decode fX5_plainRentOf.2.1 56 = .ok (.aload_n 0, 1) := by decide +kernel
theorem dX5_plainRentOf_57 : decode fX5_plainRentOf.2.1 57 = .ok (.getfield 43, 3) := by decide +kernel
theorem dX5_plainRentOf_60 : decode fX5_plainRentOf.2.1 60 = .ok (.iconst 1, 1) := by decide +kernel
theorem dX5_plainRentOf_61 : decode fX5_plainRentOf.2.1 61 = .ok (.iload_n 2, 1) := by decide +kernel
theorem dX5_plainRentOf_62 : decode fX5_plainRentOf.2.1 62 = .ok (.invokestatic 146, 3) := by decide +kernel
theorem dX5_plainRentOf_65 : decode fX5_plainRentOf.2.1 65 = .ok (.iastore, 1) := by decide +kernel
theorem dX5_plainRentOf_66 : decode fX5_plainRentOf.2.1 66 = .ok (.aload_n 0, 1) := by decide +kernel
theorem dX5_plainRentOf_67 : decode fX5_plainRentOf.2.1 67 = .ok (.getfield 43, 3) := by decide +kernel
theorem dX5_plainRentOf_70 : decode fX5_plainRentOf.2.1 70 = .ok (.iconst 2, 1) := by decide +kernel
theorem dX5_plainRentOf_71 : decode fX5_plainRentOf.2.1 71 = .ok (.aload_n 0, 1) := by decide +kernel
theorem dX5_plainRentOf_72 : decode fX5_plainRentOf.2.1 72 = .ok (.getfield 78, 3) := by decide +kernel
theorem dX5_plainRentOf_75 : decode fX5_plainRentOf.2.1 75 = .ok (.iastore, 1) := by decide +kernel
theorem dX5_plainRentOf_76 : decode fX5_plainRentOf.2.1 76 = .ok (.aload_n 0, 1) := by decide +kernel
theorem dX5_plainRentOf_77 : decode fX5_plainRentOf.2.1 77 = .ok (.getfield 43, 3) := by decide +kernel
theorem dX5_plainRentOf_80 : decode fX5_plainRentOf.2.1 80 = .ok (.iconst 3, 1) := by decide +kernel
theorem dX5_plainRentOf_81 : decode fX5_plainRentOf.2.1 81 = .ok (.aload_n 0, 1) := by decide +kernel
theorem dX5_plainRentOf_82 : decode fX5_plainRentOf.2.1 82 = .ok (.aload_n 1, 1) := by decide +kernel
theorem dX5_plainRentOf_83 : decode fX5_plainRentOf.2.1 83 = .ok (.invokevirtual 133, 3) := by decide +kernel
theorem dX5_plainRentOf_86 : decode fX5_plainRentOf.2.1 86 = .ok (.iastore, 1) := by decide +kernel
theorem dX5_plainRentOf_87 : decode fX5_plainRentOf.2.1 87 = .ok (.aload 4, 2) := by decide +kernel
theorem dX5_plainRentOf_89 : decode fX5_plainRentOf.2.1 89 = .ok (.aload_n 0, 1) := by decide +kernel
theorem dX5_plainRentOf_90 : decode fX5_plainRentOf.2.1 90 = .ok (.getfield 43, 3) := by decide +kernel
theorem dX5_plainRentOf_93 : decode fX5_plainRentOf.2.1 93 = .ok (.aload_n 0, 1) := by decide +kernel
theorem dX5_plainRentOf_94 : decode fX5_plainRentOf.2.1 94 = .ok (.getfield 46, 3) := by decide +kernel
theorem dX5_plainRentOf_97 : decode fX5_plainRentOf.2.1 97 = .ok (.invokevirtual 165, 3) := by decide +kernel
theorem dX5_plainRentOf_100 : decode fX5_plainRentOf.2.1 100 = .ok (.sipush 9999, 3) := by decide +kernel
theorem dX5_plainRentOf_103 : decode fX5_plainRentOf.2.1 103 = .ok (.invokestatic 169, 3) := by decide +kernel
theorem dX5_plainRentOf_106 : decode fX5_plainRentOf.2.1 106 = .ok (.ireturn, 1) := by decide +kernel
set_option maxRecDepth 100000 in
set_option maxHeartbeats 4000000 in
theorem ok_X5_plainRentOf {X : Xb} {S : Sg} {mi : Mem} {t q : Nat} {seen : Int32} (hT : TwA S t) (hq : Kd S q 0 0) (hx : ∀ p, txOf S mi t 0 = some p → ∃ len, TxA S p len) : Ok 2 0 0 fX5_plainRentOf X [rf X t, rf X q, .int seen] S mi (fun r S' mi' => r = some (.int (cPlain S mi t q seen (mi (t + 6)) (mi (t + 7)))) ∧ S' = S ∧ Scr t mi mi') := by
  refine Ok.go [some (rf X t), some (rf X q), some (.int seen), none, none] (by decide) (by simp [Value.category]) (Nat.le_of_ble_eq_true rfl) rfl ?_
  obtain ⟨k_t, ⟨r_t_home, k_t_home⟩, ⟨r_t_price, k_t_price⟩, ⟨r_t_attics, k_t_attics⟩, ⟨r_t_texts, k_t_texts⟩, ⟨r_t_counting, k_t_counting⟩, ⟨r_t_names, k_t_names⟩, ⟨r_t_pile, k_t_pile⟩, ⟨r_t_views, k_t_views⟩, a_t⟩ := id hT
  have lp := mw_dn (P := fun k => MW X fX5_plainRentOf (rmOf 2 0 0) 0 0 5 [some (rf X t), some (rf X q), some (.int seen), some (.int (fld (fun s k => s + (seen >>> (nI k &&& 31) &&& 1) * mi (t + 2) k) 0 k)), some (.int (nI k))] [] S mi (mQ X 0 0 (fun r S' mi' => r = some (.int (cPlain S mi t q seen (mi (t + 6)) (mi (t + 7)))) ∧ S' = S ∧ Scr t mi mi'))) 8 (by
    refine mw_iload dX5_plainRentOf_5 rfl ?_
    refine mw_bipush (v := 8) dX5_plainRentOf_7 (by decide) ?_
    refine mw_icmp_ge (tgt := 35) dX5_plainRentOf_9 (by decide) (fun h9 => ?_) (fun h9 => ?_)
    · skip
      change MW X fX5_plainRentOf (rmOf 2 0 0) 0 0 35 [some (rf X t), some (rf X q), some (.int seen), some (.int (cPrices (mi (t + 2)) seen)), some (.int (nI 8))] [] S mi _
      refine mw_aload_n dX5_plainRentOf_35 rfl ?_
      refine mw_iconst (v := 0) dX5_plainRentOf_36 (by decide) ?_
      refine mw_callV (g := fX5_textFor) dX5_plainRentOf_37 ml_X5_161 mfX5_textFor (ok_X5_textFor hT (j := 0) (by decide)) (by assumption) rfl rfl (Nat.le_of_ble_eq_true rfl) ⟨by decide, by decide⟩ ⟨by decide, by decide⟩ (fun r S2 mi2 hp => ?_)
      obtain ⟨rfl, e1, e2⟩ := hp
      rw [e1, e2]
      cases htx : txOf S mi t 0 with
      | none =>
        refine mw_astoreN dX5_plainRentOf_40 (by decide) ?_
        refine mw_aloadN dX5_plainRentOf_42 rfl ?_
        refine mw_ifnonnullN dX5_plainRentOf_44 ?_
        refine mw_iload_n dX5_plainRentOf_47 rfl ?_
        exact mw_iret dX5_plainRentOf_48 rfl (by decide) (by decide) ⟨by simp only [cPlain, htx], rfl, Scr.rf _ _⟩
      | some p =>
      obtain ⟨len, x1, x2, x3, x4⟩ := hx p htx
      have np : p ≠ t + 6 := Kd_ne x1 k_t_names (by decide)
      have np5 : p ≠ t + 5 := Kd_ne x1 k_t_counting (by decide)
      have nq : q ≠ t + 6 := Kd_ne hq k_t_names (by decide)
      have np1 : p + 1 ≠ t + 6 := by omega
      refine mw_astore dX5_plainRentOf_40 (by decide) ?_
      refine mw_aload dX5_plainRentOf_42 rfl ?_
      refine mw_ifnonnull (tgt := 49) dX5_plainRentOf_44 (by decide) ?_
      skip
      skip
      skip
      skip
      skip
      refine mw_aload_n dX5_plainRentOf_49 rfl ?_
      refine mw_getr dX5_plainRentOf_50 fl_X5_43 rfl (by assumption) (by assumption) ?_
      refine mw_iconst (v := 0) dX5_plainRentOf_53 (by decide) ?_
      refine mw_iload_n dX5_plainRentOf_54 rfl ?_
      refine mw_iastK (k := 0) dX5_plainRentOf_55 (by assumption) (rfl) (by decide) (by decide) ?_
      refine mw_aload_n dX5_plainRentOf_56 rfl ?_
      refine mw_getr dX5_plainRentOf_57 fl_X5_43 rfl (by assumption) (by assumption) ?_
      refine mw_iconst (v := 1) dX5_plainRentOf_60 (by decide) ?_
      refine mw_iload_n dX5_plainRentOf_61 rfl ?_
      refine mw_cSI (g := fJ6_bitCount_0f7a4) dX5_plainRentOf_62 ml_X5_146 mfJ6_bitCount_0f7a4 (ok_J6_bitCount_0f7a4) rfl rfl (Nat.le_of_ble_eq_true rfl) ⟨by decide, by decide⟩ ⟨by decide, by decide⟩ ?_
      refine mw_iastK (k := 1) dX5_plainRentOf_65 (by assumption) (rfl) (by decide) (by decide) ?_
      refine mw_aload_n dX5_plainRentOf_66 rfl ?_
      refine mw_getr dX5_plainRentOf_67 fl_X5_43 rfl (by assumption) (by assumption) ?_
      refine mw_iconst (v := 2) dX5_plainRentOf_70 (by decide) ?_
      refine mw_aload_n dX5_plainRentOf_71 rfl ?_
      refine mw_geti dX5_plainRentOf_72 fl_X5_78 rfl (by assumption) ?_
      refine mw_iastK (k := 2) dX5_plainRentOf_75 (by assumption) (rfl) (by decide) (by decide) ?_
      refine mw_aload_n dX5_plainRentOf_76 rfl ?_
      refine mw_getr dX5_plainRentOf_77 fl_X5_43 rfl (by assumption) (by assumption) ?_
      refine mw_iconst (v := 3) dX5_plainRentOf_80 (by decide) ?_
      refine mw_aload_n dX5_plainRentOf_81 rfl ?_
      refine mw_aload_n dX5_plainRentOf_82 rfl ?_
      refine mw_cVI (g := fX5_wideOf) dX5_plainRentOf_83 ml_X5_133 mfX5_wideOf (ok_X5_wideOf hT hq) (by assumption) rfl rfl (Nat.le_of_ble_eq_true rfl) ⟨by decide, by decide⟩ ⟨by decide, by decide⟩ ?_
      refine mw_iastK (k := 3) dX5_plainRentOf_86 (by assumption) (rfl) (by decide) (by decide) ?_
      refine mw_aload dX5_plainRentOf_87 rfl ?_
      refine mw_aload_n dX5_plainRentOf_89 rfl ?_
      refine mw_getr dX5_plainRentOf_90 fl_X5_43 rfl (by assumption) (by assumption) ?_
      refine mw_aload_n dX5_plainRentOf_93 rfl ?_
      refine mw_getr dX5_plainRentOf_94 fl_X5_46 rfl (by assumption) (by assumption) ?_
      refine mw_cVI (g := fX4_gives) dX5_plainRentOf_97 ml_X5_165 mfX4_gives (ok_X4_gives x1 x2 x3 (by omega) k_t_names k_t_pile (by omega) (by omega)) (by assumption) rfl rfl (Nat.le_of_ble_eq_true rfl) ⟨by decide, by decide⟩ ⟨by decide, by decide⟩ ?_
      refine mw_sipush (v := 9999) dX5_plainRentOf_100 (by decide) ?_
      refine mw_cSNI (g := fX6_held) dX5_plainRentOf_103 nl_X5_169 mfX6_held (ok_X6_held) rfl rfl (Nat.le_of_ble_eq_true rfl) ⟨by decide, by decide⟩ ⟨by decide, by decide⟩ ?_
      exact mw_iret dX5_plainRentOf_106 rfl (by decide) (by decide) (⟨by simp only [cPlain, htx, x3.2, minI, maxI]; simp [m_up_row, m_up_ne, nq, np1, np5], rfl, fun a h1 h2 => by rw [m_row_ne h2, m_up_ne h1, m_up_ne h1, m_up_ne h1, m_up_ne h1]⟩)
    · skip
      exact absurd (by decide) h9) (fun k hk ih => by
    refine mw_iload dX5_plainRentOf_5 rfl ?_
    refine mw_bipush (v := 8) dX5_plainRentOf_7 (by decide) ?_
    refine mw_icmp_ge (tgt := 35) dX5_plainRentOf_9 (by decide) (fun h9 => ?_) (fun h9 => ?_)
    · skip
      exact absurd h9 (nI_ge (b := 8) (by omega) (by decide))
    · skip
      refine mw_iload_n dX5_plainRentOf_12 rfl ?_
      refine mw_iload_n dX5_plainRentOf_13 rfl ?_
      refine mw_iload dX5_plainRentOf_14 rfl ?_
      refine mw_ishr dX5_plainRentOf_16 ?_
      refine mw_iconst (v := 1) dX5_plainRentOf_17 (by decide) ?_
      refine mw_iand dX5_plainRentOf_18 ?_
      refine mw_aload_n dX5_plainRentOf_19 rfl ?_
      refine mw_getr dX5_plainRentOf_20 fl_X5_15 rfl (by assumption) (by assumption) ?_
      refine mw_iload dX5_plainRentOf_23 rfl ?_
      refine mw_ialdK (k := k) dX5_plainRentOf_25 (by assumption) (rfl) (by omega) (by decide) ?_
      refine mw_imul dX5_plainRentOf_26 ?_
      refine mw_iadd dX5_plainRentOf_27 ?_
      refine mw_istN 3 dX5_plainRentOf_28 rfl (by decide) ?_
      refine mw_iincK (k := k) dX5_plainRentOf_29 rfl rfl (by decide) ?_
      refine mw_goto (tgt := 5) dX5_plainRentOf_32 (by decide) ?_
      exact MW.back ih (by simp [lsub, fld]))
  refine mw_iconst (v := 0) dX5_plainRentOf_0 (by decide) ?_
  refine mw_istN 3 dX5_plainRentOf_1 rfl (by decide) ?_
  refine mw_iconst (v := 0) dX5_plainRentOf_2 (by decide) ?_
  refine mw_istore dX5_plainRentOf_3 (by decide) ?_
  exact MW.back lp (by simp [lsub, fld, nI_0])
/-- the rent of the attic at place q -/
def cRentP (kind seen plain : Int32) : Int32 := if kind = 1 then maxI 0 (plain - 1) else if kind = 3 then maxI 0 (plain - 1) / 2 else if kind = 2 then plain + 3 else if kind = 4 then plain + 3 + jBits seen else plain
def cSeesQ (mi : Mem) (t q : Nat) : Int32 := cSees (mi (t + 1)) (mi t 10) (mi t 4) (mi q 0) (mi q 1) (mi q 2)
def cRentX (S : Sg) (mi : Mem) (t q : Nat) (nm0 pile : Nat → Int32) : Int32 := cRentP (mi q 0) (cSeesQ mi t q) (cPlain S mi t q (cSeesQ mi t q) nm0 pile)
theorem dX5_rentOf_0 : decode fX5_rentOf.2.1 0 = .ok (.aload_n 0, 1) := by decide +kernel
theorem dX5_rentOf_1 : decode fX5_rentOf.2.1 1 = .ok (.aload_n 1, 1) := by decide +kernel
theorem dX5_rentOf_2 : decode fX5_rentOf.2.1 2 = .ok (.invokevirtual 142, 3) := by decide +kernel
theorem dX5_rentOf_5 : decode fX5_rentOf.2.1 5 = .ok (.istore_n 2, 1) := by decide +kernel
theorem dX5_rentOf_6 : decode fX5_rentOf.2.1 6 = .ok (.aload_n 0, 1) := by decide +kernel
theorem dX5_rentOf_7 : decode fX5_rentOf.2.1 7 = .ok (.aload_n 1, 1) := by decide +kernel
theorem dX5_rentOf_8 : decode fX5_rentOf.2.1 8 = .ok (.iload_n 2, 1) := by decide +kernel
theorem dX5_rentOf_9 : decode fX5_rentOf.2.1 9 = .ok (.invokevirtual 154, 3) := by decide +kernel
theorem dX5_rentOf_12 : decode fX5_rentOf.2.1 12 = .ok (.istore_n 3, 1) := by decide +kernel
theorem dX5_rentOf_13 : decode fX5_rentOf.2.1 13 = .ok (.aload_n 1, 1) := by decide +kernel
theorem dX5_rentOf_14 : decode fX5_rentOf.2.1 14 = .ok (.getfield 120, 3) := by decide +kernel
theorem dX5_rentOf_17 : decode fX5_rentOf.2.1 17 = .ok (.tableswitch 62 1 4 #[31, 49, 39, 53], 31) := by decide +kernel
theorem dX5_rentOf_48 : decode fX5_rentOf.2.1 48 = .ok (.iconst 0, 1) := by decide +kernel
theorem dX5_rentOf_49 : decode fX5_rentOf.2.1 49 = .ok (.iload_n 3, 1) := by decide +kernel
theorem dX5_rentOf_50 : decode fX5_rentOf.2.1 50 = .ok (.iconst 1, 1) := by decide +kernel
theorem dX5_rentOf_51 : decode fX5_rentOf.2.1 51 = .ok (.isub, 1) := by decide +kernel
theorem dX5_rentOf_52 : decode fX5_rentOf.2.1 52 = .ok (.invokestatic 158, 3) := by decide +kernel
theorem dX5_rentOf_55 : decode fX5_rentOf.2.1 55 = .ok (.ireturn, 1) := by decide +kernel
theorem dX5_rentOf_56 : decode fX5_rentOf.2.1 56 = .ok (.iconst 0, 1) := by decide +kernel
theorem dX5_rentOf_57 : decode fX5_rentOf.2.1 57 = .ok (.iload_n 3, 1) := by decide +kernel
theorem dX5_rentOf_58 : decode fX5_rentOf.2.1 58 = .ok (.iconst 1, 1) := by decide +kernel
theorem dX5_rentOf_59 : decode fX5_rentOf.2.1 59 = .ok (.isub, 1) := by decide +kernel
theorem dX5_rentOf_60 : decode fX5_rentOf.2.1 60 = .ok (.invokestatic 158, 3) := by decide +kernel
theorem dX5_rentOf_63 : decode fX5_rentOf.2.1 63 = .ok (.iconst 2, 1) := by decide +kernel
theorem dX5_rentOf_64 : decode fX5_rentOf.2.1 64 = .ok (.idiv, 1) := by decide +kernel
theorem dX5_rentOf_65 : decode fX5_rentOf.2.1 65 = .ok (.ireturn, 1) := by decide +kernel
theorem dX5_rentOf_66 : decode fX5_rentOf.2.1 66 = .ok (.iload_n 3, 1) := by decide +kernel
theorem dX5_rentOf_67 : decode fX5_rentOf.2.1 67 = .ok (.iconst 3, 1) := by decide +kernel
theorem dX5_rentOf_68 : decode fX5_rentOf.2.1 68 = .ok (.iadd, 1) := by decide +kernel
theorem dX5_rentOf_69 : decode fX5_rentOf.2.1 69 = .ok (.ireturn, 1) := by decide +kernel
theorem dX5_rentOf_70 : decode fX5_rentOf.2.1 70 = .ok (.iload_n 3, 1) := by decide +kernel
theorem dX5_rentOf_71 : decode fX5_rentOf.2.1 71 = .ok (.iconst 3, 1) := by decide +kernel
theorem dX5_rentOf_72 : decode fX5_rentOf.2.1 72 = .ok (.iadd, 1) := by decide +kernel
theorem dX5_rentOf_73 : decode fX5_rentOf.2.1 73 = .ok (.iload_n 2, 1) := by decide +kernel
theorem dX5_rentOf_74 : decode fX5_rentOf.2.1 74 = .ok (.invokestatic 146, 3) := by decide +kernel
theorem dX5_rentOf_77 : decode fX5_rentOf.2.1 77 = .ok (.iadd, 1) := by decide +kernel
theorem dX5_rentOf_78 : decode fX5_rentOf.2.1 78 = .ok (.ireturn, 1) := by decide +kernel
theorem dX5_rentOf_79 : decode fX5_rentOf.2.1 79 = .ok (.iload_n 3, 1) := by decide +kernel
theorem dX5_rentOf_80 : decode fX5_rentOf.2.1 80 = .ok (.ireturn, 1) := by decide +kernel
set_option maxRecDepth 100000 in
set_option maxHeartbeats 4000000 in
theorem ok_X5_rentOf {X : Xb} {S : Sg} {mi : Mem} {t q : Nat} (hT : TwA S t) (hq : Kd S q 0 0) (hx : ∀ p, txOf S mi t 0 = some p → ∃ len, TxA S p len) : Ok 3 0 0 fX5_rentOf X [rf X t, rf X q] S mi (fun r S' mi' => r = some (.int (cRentX S mi t q (mi (t + 6)) (mi (t + 7)))) ∧ S' = S ∧ Scr t mi mi') := by
  refine Ok.go [some (rf X t), some (rf X q), none, none] (by decide) (by simp [Value.category]) (Nat.le_of_ble_eq_true rfl) rfl ?_
  obtain ⟨k_t, ⟨r_t_home, k_t_home⟩, ⟨r_t_price, k_t_price⟩, ⟨r_t_attics, k_t_attics⟩, ⟨r_t_texts, k_t_texts⟩, ⟨r_t_counting, k_t_counting⟩, ⟨r_t_names, k_t_names⟩, ⟨r_t_pile, k_t_pile⟩, ⟨r_t_views, k_t_views⟩, a_t⟩ := id hT
  have nq1 : q ≠ t + 6 := Kd_ne hq k_t_names (by decide)
  have nq2 : q ≠ t + 7 := Kd_ne hq k_t_pile (by decide)
  refine mw_aload_n dX5_rentOf_0 rfl ?_
  refine mw_aload_n dX5_rentOf_1 rfl ?_
  refine mw_cVI (g := fX5_seenBy) dX5_rentOf_2 ml_X5_142 mfX5_seenBy (ok_X5_seenBy hT hq) (by assumption) rfl rfl (Nat.le_of_ble_eq_true rfl) ⟨by decide, by decide⟩ ⟨by decide, by decide⟩ ?_
  refine mw_istN 2 dX5_rentOf_5 rfl (by decide) ?_
  refine mw_aload_n dX5_rentOf_6 rfl ?_
  refine mw_aload_n dX5_rentOf_7 rfl ?_
  refine mw_iload_n dX5_rentOf_8 rfl ?_
  refine mw_callV (g := fX5_plainRentOf) dX5_rentOf_9 ml_X5_154 mfX5_plainRentOf (ok_X5_plainRentOf hT hq hx) (by assumption) rfl rfl (Nat.le_of_ble_eq_true rfl) ⟨by decide, by decide⟩ ⟨by decide, by decide⟩ (fun r S2 mi2 hp => ?_)
  obtain ⟨rfl, e1, hs⟩ := hp
  rw [e1]
  have eq0 : mi2 q = mi q := hs q nq1 nq2
  refine mw_istN 3 dX5_rentOf_12 rfl (by decide) ?_
  refine mw_aload_n dX5_rentOf_13 rfl ?_
  refine mw_geti dX5_rentOf_14 fl_X5_120 rfl (by assumption) ?_
  rw [eq0]
  refine mw_ts1 dX5_rentOf_17 (by decide) 1 48 (by decide) (fun h17_1 => ?_) (fun h17_1 => ?_)
  · skip
    refine mw_iconst (v := 0) dX5_rentOf_48 (by decide) ?_
    refine mw_iload_n dX5_rentOf_49 rfl ?_
    refine mw_iconst (v := 1) dX5_rentOf_50 (by decide) ?_
    refine mw_isub dX5_rentOf_51 ?_
    refine mw_mmax dX5_rentOf_52 ml_X5_158 (Nat.le_of_ble_eq_true rfl) ⟨by decide, by decide⟩ ⟨by decide, by decide⟩ ?_
    exact mw_iret dX5_rentOf_55 rfl (by decide) (by decide) (⟨by simp_all [cRentX, cRentP, cSeesQ, maxI], rfl, hs⟩)
  refine mw_ts1 dX5_rentOf_17 (by decide) 2 66 (by decide) (fun h17_2 => ?_) (fun h17_2 => ?_)
  · skip
    refine mw_iload_n dX5_rentOf_66 rfl ?_
    refine mw_iconst (v := 3) dX5_rentOf_67 (by decide) ?_
    refine mw_iadd dX5_rentOf_68 ?_
    exact mw_iret dX5_rentOf_69 rfl (by decide) (by decide) (⟨by simp_all [cRentX, cRentP, cSeesQ, maxI], rfl, hs⟩)
  refine mw_ts1 dX5_rentOf_17 (by decide) 3 56 (by decide) (fun h17_3 => ?_) (fun h17_3 => ?_)
  · skip
    refine mw_iconst (v := 0) dX5_rentOf_56 (by decide) ?_
    refine mw_iload_n dX5_rentOf_57 rfl ?_
    refine mw_iconst (v := 1) dX5_rentOf_58 (by decide) ?_
    refine mw_isub dX5_rentOf_59 ?_
    refine mw_mmax dX5_rentOf_60 ml_X5_158 (Nat.le_of_ble_eq_true rfl) ⟨by decide, by decide⟩ ⟨by decide, by decide⟩ ?_
    refine mw_iconst (v := 2) dX5_rentOf_63 (by decide) ?_
    refine mw_idiv dX5_rentOf_64 (by decide) ?_
    exact mw_iret dX5_rentOf_65 rfl (by decide) (by decide) (⟨by simp_all [cRentX, cRentP, cSeesQ, maxI], rfl, hs⟩)
  refine mw_ts1 dX5_rentOf_17 (by decide) 4 70 (by decide) (fun h17_4 => ?_) (fun h17_4 => ?_)
  · skip
    refine mw_iload_n dX5_rentOf_70 rfl ?_
    refine mw_iconst (v := 3) dX5_rentOf_71 (by decide) ?_
    refine mw_iadd dX5_rentOf_72 ?_
    refine mw_iload_n dX5_rentOf_73 rfl ?_
    refine mw_cSI (g := fJ6_bitCount_0f7a4) dX5_rentOf_74 ml_X5_146 mfJ6_bitCount_0f7a4 (ok_J6_bitCount_0f7a4) rfl rfl (Nat.le_of_ble_eq_true rfl) ⟨by decide, by decide⟩ ⟨by decide, by decide⟩ ?_
    refine mw_iadd dX5_rentOf_77 ?_
    exact mw_iret dX5_rentOf_78 rfl (by decide) (by decide) (⟨by simp_all [cRentX, cRentP, cSeesQ, maxI], rfl, hs⟩)
  refine mw_ts0 dX5_rentOf_17 (by decide) 79 (by decide) (by have e0 := ne_toI (n := 1) (by decide) h17_1; have e1 := ne_toI (n := 2) (by decide) h17_2; have e2 := ne_toI (n := 3) (by decide) h17_3; have e3 := ne_toI (n := 4) (by decide) h17_4; omega) ?_
  refine mw_iload_n dX5_rentOf_79 rfl ?_
  exact mw_iret dX5_rentOf_80 rfl (by decide) (by decide) (⟨by simp_all [cRentX, cRentP, cSeesQ, maxI], rfl, hs⟩)
