/-! the JDK's String members over the class's literals -/
theorem Cx.fx {fr : Fr} {X : Xb} {p : Program} {s : State} {m : MethodId} {args : Array Value} {meth : Method} {c : Code} (C : Cx fr X p s m args meth c) : Fx X s := C.2.2.2.2.2.2.2.2.2
abbrev sK (X : Xb) (i : Nat) : Nat := X.2.2.2.2.1 i
abbrev sV (X : Xb) (i : Nat) : Nat := X.2.2.2.2.2.1 i
abbrev sB (i k : Nat) : Int32 := (sByt.getD i []).getD k 0
abbrev sN (i : Nat) : Nat := sLen.getD i 0
theorem fS9 : Cond.fieldLink RJ0 9 RJ0 "value" "[B" ∈ TW := TW_of 1369 (by decide +kernel) (by decide +kernel)
theorem fS15 : Cond.fieldLink RJ0 15 RJ0 "coder" "B" ∈ TW := TW_of 1370 (by decide +kernel) (by decide +kernel)
theorem fS38 : Cond.fieldLink RJ0 38 RJ0 "COMPACT_STRINGS" "Z" ∈ TW := TW_of 646 (by decide +kernel) (by decide +kernel)
theorem fS1053 : Cond.fieldLink RJ0 1053 RJ3 "SIOOBE_FORMATTER" "Ljava/util/function/BiFunction;" ∈ TW := TW_of 662 (by decide +kernel) (by decide +kernel)
def MFK (g : Fr) (n : Nat) : Prop := MF g n ∧ Cond.instanceMethod g.1 ∈ TW ∧ Cond.selects g.1.cls g.1 g.1 ∈ TW ∧ g.1.cls = RJ0
theorem mkJ0_length_8abf5 : MFK fJ0_length_8abf5 0 := ⟨⟨TW_of 641 (by decide +kernel) (by decide +kernel), TW_of 68 (by decide +kernel) (by decide +kernel), ⟨by decide +kernel, by decide +kernel, by decide +kernel⟩, by decide⟩, TW_of 639 (by decide +kernel) (by decide +kernel), TW_of 640 (by decide +kernel) (by decide +kernel), rfl⟩
theorem mkJ0_coder_7d493 : MFK fJ0_coder_7d493 0 := ⟨⟨TW_of 645 (by decide +kernel) (by decide +kernel), TW_of 68 (by decide +kernel) (by decide +kernel), ⟨by decide +kernel, by decide +kernel, by decide +kernel⟩, by decide⟩, TW_of 643 (by decide +kernel) (by decide +kernel), TW_of 644 (by decide +kernel) (by decide +kernel), rfl⟩
theorem mkJ0_charAt_5068e : MFK fJ0_charAt_5068e 1 := ⟨⟨TW_of 651 (by decide +kernel) (by decide +kernel), TW_of 68 (by decide +kernel) (by decide +kernel), ⟨by decide +kernel, by decide +kernel, by decide +kernel⟩, by decide⟩, TW_of 649 (by decide +kernel) (by decide +kernel), TW_of 650 (by decide +kernel) (by decide +kernel), rfl⟩
theorem mkJ0_isLatin1_aae02 : MFK fJ0_isLatin1_aae02 0 := ⟨⟨TW_of 655 (by decide +kernel) (by decide +kernel), TW_of 68 (by decide +kernel) (by decide +kernel), ⟨by decide +kernel, by decide +kernel, by decide +kernel⟩, by decide⟩, TW_of 653 (by decide +kernel) (by decide +kernel), TW_of 654 (by decide +kernel) (by decide +kernel), rfl⟩
theorem mkJ0_indexOf_0f7a4 : MFK fJ0_indexOf_0f7a4 1 := ⟨⟨TW_of 718 (by decide +kernel) (by decide +kernel), TW_of 68 (by decide +kernel) (by decide +kernel), ⟨by decide +kernel, by decide +kernel, by decide +kernel⟩, by decide⟩, TW_of 716 (by decide +kernel) (by decide +kernel), TW_of 717 (by decide +kernel) (by decide +kernel), rfl⟩
theorem mkJ0_indexOf_7cf53 : MFK fJ0_indexOf_7cf53 2 := ⟨⟨TW_of 722 (by decide +kernel) (by decide +kernel), TW_of 68 (by decide +kernel) (by decide +kernel), ⟨by decide +kernel, by decide +kernel, by decide +kernel⟩, by decide⟩, TW_of 720 (by decide +kernel) (by decide +kernel), TW_of 721 (by decide +kernel) (by decide +kernel), rfl⟩
section MWS
variable {X : Xb} {fr : Fr} {R : Room} {kc sl pc : Nat} {L : List (Option Value)} {st st0 : List Value} {S : Sg} {mi : Mem} {Q : Qt}
theorem mw_i2b {x : Int32} (hd : decode fr.2.1 pc = .ok (.i2b, 1)) (k : MW X fr R kc sl (pc + 1) L (.int x.toInt8.toInt32 :: st) S mi Q) : MW X fr R kc sl pc L (.int x :: st) S mi Q :=
  fun p l e s m args below meth c H locs ls C hS hP hL => lv_i2b C.1 C.2.1 hd rfl (k p l e s m args below meth c H locs ls C hS hP hL)
theorem mw_ldcS {idx : Nat} (i : Nat) (hi : i < 6) (hx : sIdx i = idx) (hc : fr.1.cls = RX3) (hd : decode fr.2.1 pc = .ok (.ldc idx, 2)) (k : MW X fr R kc sl (pc + 2) L (.ref (sK X i) :: st) S mi Q) : MW X fr R kc sl pc L st S mi Q :=
  fun p l e s m args below meth c H locs ls C hS hP hL => va_ldcS (own := RX3) (tx := sTx i) (index := idx) C.1 C.2.1 (by rw [← hc]; exact C.2.2.2.1) (by rw [← hx]; exact C.fx.2.2.2.2.2.2.1 i hi) hd (k p l e s m args below meth c H locs ls C hS hP hL)
theorem mw_gSv (i : Nat) (hi : i < 6) (hc : fr.1.cls = RJ0) (hd : decode fr.2.1 pc = .ok (.getfield 9, 3)) (k : MW X fr R kc sl (pc + 3) L (.ref (sV X i) :: st) S mi Q) : MW X fr R kc sl pc L (.ref (sK X i) :: st) S mi Q :=
  fun p l e s m args below meth c H locs ls C hS hP hL => vk_getf (own := RJ0) (ref := RJ0) C.1 C.2.1 ((C.fx.2.2.2.2.2.1.1 i hi).2.2.1) hS (by rw [← hc]; exact C.2.2.2.1) (C.2.2.2.2.1 _ fS9) (fun x h => h) hd (k p l e s m args below meth c H locs ls C hS hP hL)
theorem mw_gSc (i : Nat) (hi : i < 6) (hc : fr.1.cls = RJ0) (hd : decode fr.2.1 pc = .ok (.getfield 15, 3)) (k : MW X fr R kc sl (pc + 3) L (.int 0 :: st) S mi Q) : MW X fr R kc sl pc L (.ref (sK X i) :: st) S mi Q :=
  fun p l e s m args below meth c H locs ls C hS hP hL => vk_getf (own := RJ0) (ref := RJ0) C.1 C.2.1 ((C.fx.2.2.2.2.2.1.1 i hi).2.1) hS (by rw [← hc]; exact C.2.2.2.1) (C.2.2.2.2.1 _ fS15) (fun x h => h) hd (k p l e s m args below meth c H locs ls C hS hP hL)
theorem mw_gCS (hc : fr.1.cls = RJ0) (hd : decode fr.2.1 pc = .ok (.getstatic 38, 3)) (k : MW X fr R kc sl (pc + 3) L (.int 1 :: st) S mi Q) : MW X fr R kc sl pc L st S mi Q :=
  fun p l e s m args below meth c H locs ls C hS hP hL => va_gets (own := RJ0) (ref := RJ0) C.1 C.2.1 C.fx.2.2.2.2.2.2.2.1 hS (by rw [← hc]; exact C.2.2.2.1) (C.2.2.2.2.1 _ fS38) (fun x h => h) hd (k p l e s m args below meth c H locs ls C hS hP hL)
theorem mw_gFM (hc : fr.1.cls = RJ0) (hd : decode fr.2.1 pc = .ok (.getstatic 1053, 3)) (k : ∀ v : Value, (v = .null ∨ ∃ t, v = .ref t) → MW X fr R kc sl (pc + 3) L (v :: st) S mi Q) : MW X fr R kc sl pc L st S mi Q := by
  intro p l e s m args below meth c H locs ls C hS hP hL
  rcases C.fx.2.2.2.2.2.2.2.2.1 with h | ⟨t, h⟩
  · exact va_gets (own := RJ0) (ref := RJ3) C.1 C.2.1 h hS (by rw [← hc]; exact C.2.2.2.1) (C.2.2.2.2.1 _ fS1053) (fun x h => h) hd (k _ (Or.inl rfl) p l e s m args below meth c H locs ls C hS hP hL)
  · exact va_gets (own := RJ0) (ref := RJ3) C.1 C.2.1 h hS (by rw [← hc]; exact C.2.2.2.1) (C.2.2.2.2.1 _ fS1053) (fun x h => h) hd (k _ (Or.inr ⟨t, rfl⟩) p l e s m args below meth c H locs ls C hS hP hL)
theorem mw_bln (i : Nat) (hi : i < 6) (hd : decode fr.2.1 pc = .ok (.arraylength, 1)) (k : MW X fr R kc sl (pc + 1) L (.int (nI (sN i)) :: st) S mi Q) : MW X fr R kc sl pc L (.ref (sV X i) :: st) S mi Q :=
  fun p l e s m args below meth c H locs ls C hS hP hL => va_tlen C.1 C.2.1 ((C.fx.2.2.2.2.2.1.1 i hi).2.2.2) hS rfl hd (k p l e s m args below meth c H locs ls C hS hP hL)
theorem mw_bbl {j : Int32} (i q : Nat) (hi : i < 6) (hq : q < sN i) (hj : j = nI q) (hd : decode fr.2.1 pc = .ok (.baload, 1)) (k : MW X fr R kc sl (pc + 1) L (.int (sB i q) :: st) S mi Q) : MW X fr R kc sl pc L (.int j :: .ref (sV X i) :: st) S mi Q := by
  have hN : ∀ i, i < 6 → sN i < 5 := by decide
  have := hN i hi
  exact fun p l e s m args below meth c H locs ls C hS hP hL => va_tb C.1 C.2.1 ((C.fx.2.2.2.2.2.1.1 i hi).2.2.2) hS (by rw [hj]; exact vp_in_nI hq (show sN i < 2 ^ 31 by omega)) (by rw [hj, nI_clamp (by omega)]) hd (k p l e s m args below meth c H locs ls C hS hP hL)
theorem mw_callK {d mc ms n idx : Nat} {g : Fr} {As : List Value} {P : Pt3} (i : Nat) (hi : i < 6) (hd : decode fr.2.1 pc = .ok (.invokevirtual idx, 3)) (hl : Cond.methodLink fr.1.cls idx g.1 ∈ TW) (hm : MFK g n) (hok : Ok d mc ms g X (.ref (sK X i) :: As) S mi P) (hn : As.length = n) (hst : st0 = As.reverse ++ .ref (sK X i) :: st) (hr : (st.map fun v => v.category).sum ≤ 8) (hR : d + 1 ≤ R.frames ∧ 40 + 40 * d ≤ R.locals) (hc : kc + mc ≤ R.cells ∧ sl + ms ≤ R.slots)
    (kk : ∀ r S' mi', P r S' mi' → MW X fr R (kc + mc) (sl + ms) (pc + 3) L (r.toList ++ st) S' mi' Q) : MW X fr R kc sl pc L st0 S mi Q := by
  intro p l e s m args below meth c H locs ls C hS hP hL
  obtain ⟨⟨m1, m2, m3, m4⟩, m5, m6, m8⟩ := hm
  have hts := C.2.2.2.2.1
  have cb : CallB R s args fr.1.cls idx g.1 g.2.1 g.2.2.1 g.2.2.2 (.code g.1 g.2.1 g.2.2.1 g.2.2.2 :: TW) (rmOf d mc ms) mc ms n := callB_of n hts (goodTW m1) rfl rfl rfl (hts _ m2) (hts _ hl) m3 ⟨hR.1, by show 8 + (g.2.2.1 + 11) + 40 * d ≤ R.locals; omega⟩
  have hrecv := vk_recv C.fx.2.2.2.2.2.1 hi hS
  have e8 : g.1.cls = "java/lang/String" := m8
  rw [← e8] at hrecv
  exact W_call C hS hL (va_runV ⟨C.1, C.2.1, C.2.2.1, C.2.2.2.1, hts⟩ (hok l) ⟨cb, hts _ m5, hts _ m6⟩ ⟨Pre3_blind, hrecv, Pre3_at C hS hP⟩ rfl hn hL.2.1.1 hst (lv_room hr) hd hc) kk
theorem mw_cKI {d n idx : Nat} {g : Fr} {As : List Value} {x : Int32} {mi2 : Mem} (i : Nat) (hi : i < 6) (hd : decode fr.2.1 pc = .ok (.invokevirtual idx, 3)) (hl : Cond.methodLink fr.1.cls idx g.1 ∈ TW) (hm : MFK g n) (hok : OkI d g X (.ref (sK X i) :: As) S mi x mi2) (hn : As.length = n) (hst : st0 = As.reverse ++ .ref (sK X i) :: st) (hr : (st.map fun v => v.category).sum ≤ 8) (hR : d + 1 ≤ R.frames ∧ 40 + 40 * d ≤ R.locals) (hc : kc ≤ R.cells ∧ sl ≤ R.slots)
    (kk : MW X fr R kc sl (pc + 3) L (.int x :: st) S mi2 Q) : MW X fr R kc sl pc L st0 S mi Q := by
  refine mw_callK i hi hd hl hm hok hn hst hr hR hc (fun r S' mi' h => ?_)
  obtain ⟨rfl, rfl, rfl⟩ := h
  exact kk
end MWS
theorem dJ0_coder_7d493_0 : decode fJ0_coder_7d493.2.1 0 = .ok (.getstatic 38, 3) := by decide +kernel
theorem dJ0_coder_7d493_3 : decode fJ0_coder_7d493.2.1 3 = .ok (.ifCond .eq 10, 3) := by decide +kernel
theorem dJ0_coder_7d493_6 : decode fJ0_coder_7d493.2.1 6 = .ok (.aload_n 0, 1) := by decide +kernel
theorem dJ0_coder_7d493_7 : decode fJ0_coder_7d493.2.1 7 = .ok (.getfield 15, 3) := by decide +kernel
theorem dJ0_coder_7d493_10 : decode fJ0_coder_7d493.2.1 10 = .ok (.goto 4, 3) := by decide +kernel
theorem dJ0_coder_7d493_13 : decode fJ0_coder_7d493.2.1 13 = .ok (.iconst 1, 1) := by decide +kernel
theorem dJ0_coder_7d493_14 : decode fJ0_coder_7d493.2.1 14 = .ok (.ireturn, 1) := by decide +kernel
set_option maxRecDepth 100000 in
set_option maxHeartbeats 4000000 in
theorem ok_J0_coder_7d493 {X : Xb} {S : Sg} {mi : Mem} {i : Nat} (hi : i < 6) : OkI 0 fJ0_coder_7d493 X [.ref (sK X i)] S mi 0 mi := by
  refine Ok.go [some (.ref (sK X i))] (by decide) (by simp [Value.category]) (Nat.le_of_ble_eq_true rfl) rfl ?_
  refine mw_gCS rfl dJ0_coder_7d493_0 ?_
  refine mw_if_eq (tgt := 13) dJ0_coder_7d493_3 (by decide) (fun h3 => ?_) (fun h3 => ?_)
  · skip
    exact absurd h3 (by decide)
  · skip
    refine mw_aload_n dJ0_coder_7d493_6 rfl ?_
    refine mw_gSc i hi rfl dJ0_coder_7d493_7 ?_
    refine mw_goto (tgt := 14) dJ0_coder_7d493_10 (by decide) ?_
    exact mw_zret dJ0_coder_7d493_14 rfl (by decide) (by decide) (by decide) ⟨rfl, rfl, rfl⟩
theorem dJ0_isLatin1_aae02_0 : decode fJ0_isLatin1_aae02.2.1 0 = .ok (.getstatic 38, 3) := by decide +kernel
theorem dJ0_isLatin1_aae02_3 : decode fJ0_isLatin1_aae02.2.1 3 = .ok (.ifCond .eq 14, 3) := by decide +kernel
theorem dJ0_isLatin1_aae02_6 : decode fJ0_isLatin1_aae02.2.1 6 = .ok (.aload_n 0, 1) := by decide +kernel
theorem dJ0_isLatin1_aae02_7 : decode fJ0_isLatin1_aae02.2.1 7 = .ok (.getfield 15, 3) := by decide +kernel
theorem dJ0_isLatin1_aae02_10 : decode fJ0_isLatin1_aae02.2.1 10 = .ok (.ifCond .ne 7, 3) := by decide +kernel
theorem dJ0_isLatin1_aae02_13 : decode fJ0_isLatin1_aae02.2.1 13 = .ok (.iconst 1, 1) := by decide +kernel
theorem dJ0_isLatin1_aae02_14 : decode fJ0_isLatin1_aae02.2.1 14 = .ok (.goto 4, 3) := by decide +kernel
theorem dJ0_isLatin1_aae02_17 : decode fJ0_isLatin1_aae02.2.1 17 = .ok (.iconst 0, 1) := by decide +kernel
theorem dJ0_isLatin1_aae02_18 : decode fJ0_isLatin1_aae02.2.1 18 = .ok (.ireturn, 1) := by decide +kernel
set_option maxRecDepth 100000 in
set_option maxHeartbeats 4000000 in
theorem ok_J0_isLatin1_aae02 {X : Xb} {S : Sg} {mi : Mem} {i : Nat} (hi : i < 6) : OkI 0 fJ0_isLatin1_aae02 X [.ref (sK X i)] S mi 1 mi := by
  refine Ok.go [some (.ref (sK X i))] (by decide) (by simp [Value.category]) (Nat.le_of_ble_eq_true rfl) rfl ?_
  refine mw_gCS rfl dJ0_isLatin1_aae02_0 ?_
  refine mw_if_eq (tgt := 17) dJ0_isLatin1_aae02_3 (by decide) (fun h3 => ?_) (fun h3 => ?_)
  · skip
    first
      | exact absurd h3 (by decide)
      | exact absurd rfl h10
      | fail "stop"
  · skip
    refine mw_aload_n dJ0_isLatin1_aae02_6 rfl ?_
    refine mw_gSc i hi rfl dJ0_isLatin1_aae02_7 ?_
    refine mw_if_ne (tgt := 17) dJ0_isLatin1_aae02_10 (by decide) (fun h10 => ?_) (fun h10 => ?_)
    · skip
      first
        | exact absurd h3 (by decide)
        | exact absurd rfl h10
        | fail "stop"
    · skip
      refine mw_iconst (v := 1) dJ0_isLatin1_aae02_13 (by decide) ?_
      refine mw_goto (tgt := 18) dJ0_isLatin1_aae02_14 (by decide) ?_
      exact mw_bret dJ0_isLatin1_aae02_18 rfl (by first | exact Or.inl rfl | exact Or.inr rfl | exact b2i_01) (by decide) (by decide) (⟨rfl, rfl, rfl⟩)
theorem dJ0_length_8abf5_0 : decode fJ0_length_8abf5.2.1 0 = .ok (.aload_n 0, 1) := by decide +kernel
theorem dJ0_length_8abf5_1 : decode fJ0_length_8abf5.2.1 1 = .ok (.getfield 9, 3) := by decide +kernel
theorem dJ0_length_8abf5_4 : decode fJ0_length_8abf5.2.1 4 = .ok (.arraylength, 1) := by decide +kernel
theorem dJ0_length_8abf5_5 : decode fJ0_length_8abf5.2.1 5 = .ok (.aload_n 0, 1) := by decide +kernel
theorem dJ0_length_8abf5_6 : decode fJ0_length_8abf5.2.1 6 = .ok (.invokevirtual 335, 3) := by decide +kernel
theorem dJ0_length_8abf5_9 : decode fJ0_length_8abf5.2.1 9 = .ok (.ishr, 1) := by decide +kernel
theorem dJ0_length_8abf5_10 : decode fJ0_length_8abf5.2.1 10 = .ok (.ireturn, 1) := by decide +kernel
theorem shr0_6 : ∀ i, i < 6 → nI (sN i) >>> ((0 : Int32) &&& 31) = nI (sN i) := by decide
set_option maxRecDepth 100000 in
set_option maxHeartbeats 4000000 in
theorem ok_J0_length_8abf5 {X : Xb} {S : Sg} {mi : Mem} {i : Nat} (hi : i < 6) : OkI 1 fJ0_length_8abf5 X [.ref (sK X i)] S mi (nI (sN i)) mi := by
  refine Ok.go [some (.ref (sK X i))] (by decide) (by simp [Value.category]) (Nat.le_of_ble_eq_true rfl) rfl ?_
  refine mw_aload_n dJ0_length_8abf5_0 rfl ?_
  refine mw_gSv i hi rfl dJ0_length_8abf5_1 ?_
  refine mw_bln i hi dJ0_length_8abf5_4 ?_
  refine mw_aload_n dJ0_length_8abf5_5 rfl ?_
  refine mw_cKI (g := fJ0_coder_7d493) i hi dJ0_length_8abf5_6 ml_J0_335 mkJ0_coder_7d493 (ok_J0_coder_7d493 hi) rfl rfl (Nat.le_of_ble_eq_true rfl) ⟨by decide, by decide⟩ ⟨by decide, by decide⟩ ?_
  refine mw_ishr dJ0_length_8abf5_9 ?_
  rw [shr0_6 i hi]
  exact mw_iret dJ0_length_8abf5_10 rfl (by decide) (by decide) (⟨rfl, rfl, rfl⟩)
theorem dJ3_checkIndex_8e157_0 : decode fJ3_checkIndex_8e157.2.1 0 = .ok (.iload_n 0, 1) := by decide +kernel
theorem dJ3_checkIndex_8e157_1 : decode fJ3_checkIndex_8e157.2.1 1 = .ok (.ifCond .lt 8, 3) := by decide +kernel
theorem dJ3_checkIndex_8e157_4 : decode fJ3_checkIndex_8e157.2.1 4 = .ok (.iload_n 0, 1) := by decide +kernel
theorem dJ3_checkIndex_8e157_5 : decode fJ3_checkIndex_8e157.2.1 5 = .ok (.iload_n 1, 1) := by decide +kernel
theorem dJ3_checkIndex_8e157_6 : decode fJ3_checkIndex_8e157.2.1 6 = .ok (.if_icmp .lt 10, 3) := by decide +kernel
theorem dJ3_checkIndex_8e157_9 : decode fJ3_checkIndex_8e157.2.1 9 = .ok (.aload_n 2, 1) := by decide +kernel
theorem dJ3_checkIndex_8e157_10 : decode fJ3_checkIndex_8e157.2.1 10 = .ok (.iload_n 0, 1) := by decide +kernel
theorem dJ3_checkIndex_8e157_11 : decode fJ3_checkIndex_8e157.2.1 11 = .ok (.iload_n 1, 1) := by decide +kernel
theorem dJ3_checkIndex_8e157_12 : decode fJ3_checkIndex_8e157.2.1 12 = .ok (.invokestatic 95, 3) := by decide +kernel
theorem dJ3_checkIndex_8e157_15 : decode fJ3_checkIndex_8e157.2.1 15 = .ok (.athrow, 1) := by decide +kernel
theorem dJ3_checkIndex_8e157_16 : decode fJ3_checkIndex_8e157.2.1 16 = .ok (.iload_n 0, 1) := by decide +kernel
theorem dJ3_checkIndex_8e157_17 : decode fJ3_checkIndex_8e157.2.1 17 = .ok (.ireturn, 1) := by decide +kernel
set_option maxRecDepth 100000 in
set_option maxHeartbeats 4000000 in
theorem ok_J3_ci {X : Xb} {S : Sg} {mi : Mem} {a n : Int32} {v : Value} (hv : v = .null ∨ ∃ t, v = .ref t) (h0 : ¬ a < 0) (h1 : a < n) : OkI 0 fJ3_checkIndex_8e157 X [.int a, .int n, v] S mi a mi := by
  rcases hv with rfl | ⟨t, rfl⟩
  · refine Ok.go [some (.int a), some (.int n), some (.null)] (by decide) (by simp [Value.category]) (Nat.le_of_ble_eq_true rfl) rfl ?_
    refine mw_iload_n dJ3_checkIndex_8e157_0 rfl ?_
    refine mw_if_lt (tgt := 9) dJ3_checkIndex_8e157_1 (by decide) (fun g1 => ?_) (fun g1 => ?_)
    · skip
      first
        | exact absurd g1 h0
        | exact absurd h1 g6
        | fail "s9"
    · skip
      refine mw_iload_n dJ3_checkIndex_8e157_4 rfl ?_
      refine mw_iload_n dJ3_checkIndex_8e157_5 rfl ?_
      refine mw_icmp_lt (tgt := 16) dJ3_checkIndex_8e157_6 (by decide) (fun g6 => ?_) (fun g6 => ?_)
      · skip
        refine mw_iload_n dJ3_checkIndex_8e157_16 rfl ?_
        exact mw_iret dJ3_checkIndex_8e157_17 rfl (by decide) (by decide) (⟨rfl, rfl, rfl⟩)
      · skip
        first
          | exact absurd g1 h0
          | exact absurd h1 g6
          | fail "s9"
  · refine Ok.go [some (.int a), some (.int n), some (.ref t)] (by decide) (by simp [Value.category]) (Nat.le_of_ble_eq_true rfl) rfl ?_
    refine mw_iload_n dJ3_checkIndex_8e157_0 rfl ?_
    refine mw_if_lt (tgt := 9) dJ3_checkIndex_8e157_1 (by decide) (fun g1 => ?_) (fun g1 => ?_)
    · skip
      first
        | exact absurd g1 h0
        | exact absurd h1 g6
        | fail "s9"
    · skip
      refine mw_iload_n dJ3_checkIndex_8e157_4 rfl ?_
      refine mw_iload_n dJ3_checkIndex_8e157_5 rfl ?_
      refine mw_icmp_lt (tgt := 16) dJ3_checkIndex_8e157_6 (by decide) (fun g6 => ?_) (fun g6 => ?_)
      · skip
        refine mw_iload_n dJ3_checkIndex_8e157_16 rfl ?_
        exact mw_iret dJ3_checkIndex_8e157_17 rfl (by decide) (by decide) (⟨rfl, rfl, rfl⟩)
      · skip
        first
          | exact absurd g1 h0
          | exact absurd h1 g6
          | fail "s9"
theorem dJ0_checkIndex_df160_0 : decode fJ0_checkIndex_df160.2.1 0 = .ok (.iload_n 0, 1) := by decide +kernel
theorem dJ0_checkIndex_df160_1 : decode fJ0_checkIndex_df160.2.1 1 = .ok (.iload_n 1, 1) := by decide +kernel
theorem dJ0_checkIndex_df160_2 : decode fJ0_checkIndex_df160.2.1 2 = .ok (.getstatic 1053, 3) := by decide +kernel
theorem dJ0_checkIndex_df160_5 : decode fJ0_checkIndex_df160.2.1 5 = .ok (.invokestatic 1059, 3) := by decide +kernel
theorem dJ0_checkIndex_df160_8 : decode fJ0_checkIndex_df160.2.1 8 = .ok (.pop, 1) := by decide +kernel
theorem dJ0_checkIndex_df160_9 : decode fJ0_checkIndex_df160.2.1 9 = .ok (.return_, 1) := by decide +kernel
set_option maxRecDepth 100000 in
set_option maxHeartbeats 4000000 in
theorem ok_J0_checkIndex_df160 {X : Xb} {S : Sg} {mi : Mem} {a n : Int32} (h0 : ¬ a < 0) (h1 : a < n) : OkV 1 fJ0_checkIndex_df160 X [.int a, .int n] S mi mi := by
  refine Ok.go [some (.int a), some (.int n)] (by decide) (by simp [Value.category]) (Nat.le_of_ble_eq_true rfl) rfl ?_
  refine mw_iload_n dJ0_checkIndex_df160_0 rfl ?_
  refine mw_iload_n dJ0_checkIndex_df160_1 rfl ?_
  refine mw_gFM rfl dJ0_checkIndex_df160_2 (fun v hv => ?_)
  refine mw_cSI (g := fJ3_checkIndex_8e157) dJ0_checkIndex_df160_5 ml_J0_1059 mfJ3_checkIndex_8e157 (ok_J3_ci hv h0 h1) rfl rfl (Nat.le_of_ble_eq_true rfl) ⟨by decide, by decide⟩ ⟨by decide, by decide⟩ ?_
  refine mw_pop dJ0_checkIndex_df160_8 rfl ?_
  exact mw_vret dJ0_checkIndex_df160_9 rfl (by decide) (by decide) (⟨rfl, rfl, rfl⟩)
theorem dJ1_charAt_3b067_0 : decode fJ1_charAt_3b067.2.1 0 = .ok (.iload_n 1, 1) := by decide +kernel
theorem dJ1_charAt_3b067_1 : decode fJ1_charAt_3b067.2.1 1 = .ok (.aload_n 0, 1) := by decide +kernel
theorem dJ1_charAt_3b067_2 : decode fJ1_charAt_3b067.2.1 2 = .ok (.arraylength, 1) := by decide +kernel
theorem dJ1_charAt_3b067_3 : decode fJ1_charAt_3b067.2.1 3 = .ok (.invokestatic 9, 3) := by decide +kernel
theorem dJ1_charAt_3b067_6 : decode fJ1_charAt_3b067.2.1 6 = .ok (.aload_n 0, 1) := by decide +kernel
theorem dJ1_charAt_3b067_7 : decode fJ1_charAt_3b067.2.1 7 = .ok (.iload_n 1, 1) := by decide +kernel
theorem dJ1_charAt_3b067_8 : decode fJ1_charAt_3b067.2.1 8 = .ok (.baload, 1) := by decide +kernel
theorem dJ1_charAt_3b067_9 : decode fJ1_charAt_3b067.2.1 9 = .ok (.sipush 255, 3) := by decide +kernel
theorem dJ1_charAt_3b067_12 : decode fJ1_charAt_3b067.2.1 12 = .ok (.iand, 1) := by decide +kernel
theorem dJ1_charAt_3b067_13 : decode fJ1_charAt_3b067.2.1 13 = .ok (.i2c, 1) := by decide +kernel
theorem dJ1_charAt_3b067_14 : decode fJ1_charAt_3b067.2.1 14 = .ok (.ireturn, 1) := by decide +kernel
theorem sB_ch : ∀ i, i < 6 → ∀ k, k < sN i → ((sB i k &&& 255).toUInt32 % 65536).toInt32 = sB i k ∧ narrow .char (.int (sB i k)) = .int (sB i k) := by decide
set_option maxRecDepth 100000 in
set_option maxHeartbeats 4000000 in
theorem ok_J1_charAt_3b067 {X : Xb} {S : Sg} {mi : Mem} {i k : Nat} (hi : i < 6) (hk : k < sN i) : OkI 2 fJ1_charAt_3b067 X [.ref (sV X i), .int (nI k)] S mi (sB i k) mi := by
  refine Ok.go [some (.ref (sV X i)), some (.int (nI k))] (by decide) (by simp [Value.category]) (Nat.le_of_ble_eq_true rfl) rfl ?_
  have hN : ∀ i, i < 6 → sN i < 5 := by decide
  have hn := hN i hi
  have hb := sB_ch i hi k hk
  refine mw_iload_n dJ1_charAt_3b067_0 rfl ?_
  refine mw_aload_n dJ1_charAt_3b067_1 rfl ?_
  refine mw_bln i hi dJ1_charAt_3b067_2 ?_
  refine mw_cSV (g := fJ0_checkIndex_df160) dJ1_charAt_3b067_3 ml_J1_9 mfJ0_checkIndex_df160 (ok_J0_checkIndex_df160 (nI_pos (by omega)) (nI_lt hk (by omega))) rfl rfl (Nat.le_of_ble_eq_true rfl) ⟨by decide, by decide⟩ ⟨by decide, by decide⟩ ?_
  refine mw_aload_n dJ1_charAt_3b067_6 rfl ?_
  refine mw_iload_n dJ1_charAt_3b067_7 rfl ?_
  refine mw_bbl i k hi hk rfl dJ1_charAt_3b067_8 ?_
  refine mw_sipush (v := 255) dJ1_charAt_3b067_9 (by decide) ?_
  refine mw_iand dJ1_charAt_3b067_12 ?_
  refine mw_i2c dJ1_charAt_3b067_13 ?_
  rw [hb.1]
  exact mw_zret dJ1_charAt_3b067_14 rfl hb.2 (by decide) (by decide) ⟨rfl, rfl, rfl⟩
theorem dJ0_charAt_5068e_0 : decode fJ0_charAt_5068e.2.1 0 = .ok (.aload_n 0, 1) := by decide +kernel
theorem dJ0_charAt_5068e_1 : decode fJ0_charAt_5068e.2.1 1 = .ok (.invokevirtual 492, 3) := by decide +kernel
theorem dJ0_charAt_5068e_4 : decode fJ0_charAt_5068e.2.1 4 = .ok (.ifCond .eq 12, 3) := by decide +kernel
theorem dJ0_charAt_5068e_7 : decode fJ0_charAt_5068e.2.1 7 = .ok (.aload_n 0, 1) := by decide +kernel
theorem dJ0_charAt_5068e_8 : decode fJ0_charAt_5068e.2.1 8 = .ok (.getfield 9, 3) := by decide +kernel
theorem dJ0_charAt_5068e_11 : decode fJ0_charAt_5068e.2.1 11 = .ok (.iload_n 1, 1) := by decide +kernel
theorem dJ0_charAt_5068e_12 : decode fJ0_charAt_5068e.2.1 12 = .ok (.invokestatic 495, 3) := by decide +kernel
theorem dJ0_charAt_5068e_15 : decode fJ0_charAt_5068e.2.1 15 = .ok (.ireturn, 1) := by decide +kernel
theorem dJ0_charAt_5068e_16 : decode fJ0_charAt_5068e.2.1 16 = .ok (.aload_n 0, 1) := by decide +kernel
theorem dJ0_charAt_5068e_17 : decode fJ0_charAt_5068e.2.1 17 = .ok (.getfield 9, 3) := by decide +kernel
theorem dJ0_charAt_5068e_20 : decode fJ0_charAt_5068e.2.1 20 = .ok (.iload_n 1, 1) := by decide +kernel
theorem dJ0_charAt_5068e_21 : decode fJ0_charAt_5068e.2.1 21 = .ok (.invokestatic 498, 3) := by decide +kernel
theorem dJ0_charAt_5068e_24 : decode fJ0_charAt_5068e.2.1 24 = .ok (.ireturn, 1) := by decide +kernel
set_option maxRecDepth 100000 in
set_option maxHeartbeats 4000000 in
theorem ok_J0_charAt_5068e {X : Xb} {S : Sg} {mi : Mem} {i k : Nat} (hi : i < 6) (hk : k < sN i) : OkI 3 fJ0_charAt_5068e X [.ref (sK X i), .int (nI k)] S mi (sB i k) mi := by
  refine Ok.go [some (.ref (sK X i)), some (.int (nI k))] (by decide) (by simp [Value.category]) (Nat.le_of_ble_eq_true rfl) rfl ?_
  have hb := sB_ch i hi k hk
  refine mw_aload_n dJ0_charAt_5068e_0 rfl ?_
  refine mw_cKI (g := fJ0_isLatin1_aae02) i hi dJ0_charAt_5068e_1 ml_J0_492 mkJ0_isLatin1_aae02 (ok_J0_isLatin1_aae02 hi) rfl rfl (Nat.le_of_ble_eq_true rfl) ⟨by decide, by decide⟩ ⟨by decide, by decide⟩ ?_
  refine mw_if_eq (tgt := 16) dJ0_charAt_5068e_4 (by decide) (fun h4 => ?_) (fun h4 => ?_)
  · skip
    exact absurd h4 (by decide)
  · skip
    refine mw_aload_n dJ0_charAt_5068e_7 rfl ?_
    refine mw_gSv i hi rfl dJ0_charAt_5068e_8 ?_
    refine mw_iload_n dJ0_charAt_5068e_11 rfl ?_
    refine mw_cSI (g := fJ1_charAt_3b067) dJ0_charAt_5068e_12 ml_J0_495 mfJ1_charAt_3b067 (ok_J1_charAt_3b067 hi hk) rfl rfl (Nat.le_of_ble_eq_true rfl) ⟨by decide, by decide⟩ ⟨by decide, by decide⟩ ?_
    exact mw_zret dJ0_charAt_5068e_15 rfl hb.2 (by decide) (by decide) ⟨rfl, rfl, rfl⟩
theorem dJ1_canEncode_9a6ad_0 : decode fJ1_canEncode_9a6ad.2.1 0 = .ok (.iload_n 0, 1) := by decide +kernel
theorem dJ1_canEncode_9a6ad_1 : decode fJ1_canEncode_9a6ad.2.1 1 = .ok (.ifCond .lt 14, 3) := by decide +kernel
theorem dJ1_canEncode_9a6ad_4 : decode fJ1_canEncode_9a6ad.2.1 4 = .ok (.iload_n 0, 1) := by decide +kernel
theorem dJ1_canEncode_9a6ad_5 : decode fJ1_canEncode_9a6ad.2.1 5 = .ok (.sipush 255, 3) := by decide +kernel
theorem dJ1_canEncode_9a6ad_8 : decode fJ1_canEncode_9a6ad.2.1 8 = .ok (.if_icmp .gt 7, 3) := by decide +kernel
theorem dJ1_canEncode_9a6ad_11 : decode fJ1_canEncode_9a6ad.2.1 11 = .ok (.iconst 1, 1) := by decide +kernel
theorem dJ1_canEncode_9a6ad_12 : decode fJ1_canEncode_9a6ad.2.1 12 = .ok (.goto 4, 3) := by decide +kernel
theorem dJ1_canEncode_9a6ad_15 : decode fJ1_canEncode_9a6ad.2.1 15 = .ok (.iconst 0, 1) := by decide +kernel
theorem dJ1_canEncode_9a6ad_16 : decode fJ1_canEncode_9a6ad.2.1 16 = .ok (.ireturn, 1) := by decide +kernel
set_option maxRecDepth 100000 in
set_option maxHeartbeats 4000000 in
theorem ok_J1_canEncode_9a6ad {X : Xb} {S : Sg} {mi : Mem} {c : Int32} : OkI 0 fJ1_canEncode_9a6ad X [.int c] S mi (b2i (0 ≤ c ∧ c ≤ 255)) mi := by
  refine Ok.go [some (.int c)] (by decide) (by simp [Value.category]) (Nat.le_of_ble_eq_true rfl) rfl ?_
  refine mw_iload_n dJ1_canEncode_9a6ad_0 rfl ?_
  refine mw_if_lt (tgt := 15) dJ1_canEncode_9a6ad_1 (by decide) (fun h1 => ?_) (fun h1 => ?_)
  · skip
    refine mw_iconst (v := 0) dJ1_canEncode_9a6ad_15 (by decide) ?_
    exact mw_bret dJ1_canEncode_9a6ad_16 rfl (by first | exact Or.inl rfl | exact Or.inr rfl | exact b2i_01) (by decide) (by decide) (⟨by first | (rw [b2i_t (And.intro (Int32.not_lt.mp h1) (Int32.not_lt.mp h8))]; done) | (rw [b2i_f (fun q => absurd q.2 (Int32.not_le.mpr h8))]; done) | (rw [b2i_f (fun q => absurd q.1 (Int32.not_le.mpr h1))]; done), rfl, rfl⟩)
  · skip
    refine mw_iload_n dJ1_canEncode_9a6ad_4 rfl ?_
    refine mw_sipush (v := 255) dJ1_canEncode_9a6ad_5 (by decide) ?_
    refine mw_icmp_gt (tgt := 15) dJ1_canEncode_9a6ad_8 (by decide) (fun h8 => ?_) (fun h8 => ?_)
    · skip
      refine mw_iconst (v := 0) dJ1_canEncode_9a6ad_15 (by decide) ?_
      exact mw_bret dJ1_canEncode_9a6ad_16 rfl (by first | exact Or.inl rfl | exact Or.inr rfl | exact b2i_01) (by decide) (by decide) (⟨by first | (rw [b2i_t (And.intro (Int32.not_lt.mp h1) (Int32.not_lt.mp h8))]; done) | (rw [b2i_f (fun q => absurd q.2 (Int32.not_le.mpr h8))]; done) | (rw [b2i_f (fun q => absurd q.1 (Int32.not_le.mpr h1))]; done), rfl, rfl⟩)
    · skip
      refine mw_iconst (v := 1) dJ1_canEncode_9a6ad_11 (by decide) ?_
      refine mw_goto (tgt := 16) dJ1_canEncode_9a6ad_12 (by decide) ?_
      exact mw_bret dJ1_canEncode_9a6ad_16 rfl (by first | exact Or.inl rfl | exact Or.inr rfl | exact b2i_01) (by decide) (by decide) (⟨by first | (rw [b2i_t (And.intro (Int32.not_lt.mp h1) (Int32.not_lt.mp h8))]; done) | (rw [b2i_f (fun q => absurd q.2 (Int32.not_le.mpr h8))]; done) | (rw [b2i_f (fun q => absurd q.1 (Int32.not_le.mpr h1))]; done), rfl, rfl⟩)
def ixF (i : Nat) (c : Int32) : Nat → Nat → Int32
  | 0, _ => -1
  | f + 1, k => if sB i k = c then nI k else ixF i c f (k + 1)
theorem i8_127 : ∀ j, j < 128 → (nI j).toInt8.toInt32 = nI j := by decide +kernel
theorem dJ1_indexOfChar_4cfef_0 : decode fJ1_indexOfChar_4cfef.2.1 0 = .ok (.iload_n 1, 1) := by decide +kernel
theorem dJ1_indexOfChar_4cfef_1 : decode fJ1_indexOfChar_4cfef.2.1 1 = .ok (.i2b, 1) := by decide +kernel
theorem dJ1_indexOfChar_4cfef_2 : decode fJ1_indexOfChar_4cfef.2.1 2 = .ok (.istore 4, 2) := by decide +kernel
theorem dJ1_indexOfChar_4cfef_4 : decode fJ1_indexOfChar_4cfef.2.1 4 = .ok (.iload_n 2, 1) := by decide +kernel
theorem dJ1_indexOfChar_4cfef_5 : decode fJ1_indexOfChar_4cfef.2.1 5 = .ok (.istore 5, 2) := by decide +kernel
theorem dJ1_indexOfChar_4cfef_7 : decode fJ1_indexOfChar_4cfef.2.1 7 = .ok (.iload 5, 2) := by decide +kernel
theorem dJ1_indexOfChar_4cfef_9 : decode fJ1_indexOfChar_4cfef.2.1 9 = .ok (.iload_n 3, 1) := by decide +kernel
theorem dJ1_indexOfChar_4cfef_10 : decode fJ1_indexOfChar_4cfef.2.1 10 = .ok (.if_icmp .ge 21, 3) := by decide +kernel
theorem dJ1_indexOfChar_4cfef_13 : decode fJ1_indexOfChar_4cfef.2.1 13 = .ok (.aload_n 0, 1) := by decide +kernel
theorem dJ1_indexOfChar_4cfef_14 : decode fJ1_indexOfChar_4cfef.2.1 14 = .ok (.iload 5, 2) := by decide +kernel
theorem dJ1_indexOfChar_4cfef_16 : decode fJ1_indexOfChar_4cfef.2.1 16 = .ok (.baload, 1) := by decide +kernel
theorem dJ1_indexOfChar_4cfef_17 : decode fJ1_indexOfChar_4cfef.2.1 17 = .ok (.iload 4, 2) := by decide +kernel
theorem dJ1_indexOfChar_4cfef_19 : decode fJ1_indexOfChar_4cfef.2.1 19 = .ok (.if_icmp .ne 6, 3) := by decide +kernel
theorem dJ1_indexOfChar_4cfef_22 : decode fJ1_indexOfChar_4cfef.2.1 22 = .ok (.iload 5, 2) := by decide +kernel
theorem dJ1_indexOfChar_4cfef_24 : decode fJ1_indexOfChar_4cfef.2.1 24 = .ok (.ireturn, 1) := by decide +kernel
theorem dJ1_indexOfChar_4cfef_25 : decode fJ1_indexOfChar_4cfef.2.1 25 = .ok (.iinc 5 1, 3) := by decide +kernel
theorem dJ1_indexOfChar_4cfef_28 : decode fJ1_indexOfChar_4cfef.2.1 28 = .ok (.goto (-21), 3) := by decide +kernel
theorem dJ1_indexOfChar_4cfef_31 : decode fJ1_indexOfChar_4cfef.2.1 31 = .ok (.iconst (-1), 1) := by decide +kernel
theorem dJ1_indexOfChar_4cfef_32 : decode fJ1_indexOfChar_4cfef.2.1 32 = .ok (.ireturn, 1) := by decide +kernel
set_option maxRecDepth 100000 in
set_option maxHeartbeats 4000000 in
theorem ok_J1_indexOfChar_4cfef {X : Xb} {S : Sg} {mi : Mem} {i j : Nat} (hi : i < 6) (hj : j < 128) : OkI 0 fJ1_indexOfChar_4cfef X [.ref (sV X i), .int (nI j), .int 0, .int (nI (sN i))] S mi (ixF i (nI j) (sN i) 0) mi := by
  refine Ok.go [some (.ref (sV X i)), some (.int (nI j)), some (.int 0), some (.int (nI (sN i))), none, none] (by decide) (by simp [Value.category]) (Nat.le_of_ble_eq_true rfl) rfl ?_
  have hN : ∀ i, i < 6 → sN i < 5 := by decide
  have hn := hN i hi
  have lp : ∀ f k, f + k = sN i → ixF i (nI j) f k = ixF i (nI j) (sN i) 0 → MW X fJ1_indexOfChar_4cfef (rmOf 0 0 0) 0 0 7 [some (.ref (sV X i)), some (.int (nI j)), some (.int 0), some (.int (nI (sN i))), some (.int (nI j)), some (.int (nI k))] [] S mi (mQ X 0 0 (pI (ixF i (nI j) (sN i) 0) S mi)) := by
    intro f
    induction f with
    | zero =>
      intro k hk hR
      refine mw_iload dJ1_indexOfChar_4cfef_7 rfl ?_
      refine mw_iload_n dJ1_indexOfChar_4cfef_9 rfl ?_
      refine mw_icmp_ge (tgt := 31) dJ1_indexOfChar_4cfef_10 (by decide) (fun h10 => ?_) (fun h10 => ?_)
      · skip
        refine mw_iconst (v := (-1)) dJ1_indexOfChar_4cfef_31 (by decide) ?_
        exact mw_iret dJ1_indexOfChar_4cfef_32 rfl (by decide) (by decide) (⟨by rw [← hR]; rfl, rfl, rfl⟩)
      · skip
        exact absurd (nI_le (show sN i ≤ k by omega) (by omega)) h10
    | succ f ih =>
      intro k hk hR
      simp only [ixF] at hR
      refine mw_iload dJ1_indexOfChar_4cfef_7 rfl ?_
      refine mw_iload_n dJ1_indexOfChar_4cfef_9 rfl ?_
      refine mw_icmp_ge (tgt := 31) dJ1_indexOfChar_4cfef_10 (by decide) (fun h10 => ?_) (fun h10 => ?_)
      · skip
        exact absurd h10 (nI_ge (by omega) (by omega))
      · skip
        refine mw_aload_n dJ1_indexOfChar_4cfef_13 rfl ?_
        refine mw_iload dJ1_indexOfChar_4cfef_14 rfl ?_
        refine mw_bbl i k hi (by omega) rfl dJ1_indexOfChar_4cfef_16 ?_
        refine mw_iload dJ1_indexOfChar_4cfef_17 rfl ?_
        refine mw_icmp_ne (tgt := 25) dJ1_indexOfChar_4cfef_19 (by decide) (fun h19 => ?_) (fun h19 => ?_)
        · skip
          refine mw_iincK (k := k) dJ1_indexOfChar_4cfef_25 rfl rfl (by decide) ?_
          refine mw_goto (tgt := 7) dJ1_indexOfChar_4cfef_28 (by decide) ?_
          exact MW.sub (by simp [lsub]) (ih (k + 1) (by omega) (by rw [if_neg h19] at hR; exact hR))
        · skip
          refine mw_iload dJ1_indexOfChar_4cfef_22 rfl ?_
          exact mw_iret dJ1_indexOfChar_4cfef_24 rfl (by decide) (by decide) (⟨by rw [if_pos h19] at hR; rw [← hR], rfl, rfl⟩)
  refine mw_iload_n dJ1_indexOfChar_4cfef_0 rfl ?_
  refine mw_i2b dJ1_indexOfChar_4cfef_1 ?_
  rw [i8_127 j hj]
  refine mw_istore dJ1_indexOfChar_4cfef_2 (by decide) ?_
  refine mw_iload_n dJ1_indexOfChar_4cfef_4 rfl ?_
  refine mw_istore dJ1_indexOfChar_4cfef_5 (by decide) ?_
  exact MW.sub (by simp [lsub, nI_0]) (lp (sN i) 0 rfl rfl)
theorem dJ1_indexOf_4cfef_0 : decode fJ1_indexOf_4cfef.2.1 0 = .ok (.iload_n 1, 1) := by decide +kernel
theorem dJ1_indexOf_4cfef_1 : decode fJ1_indexOf_4cfef.2.1 1 = .ok (.invokestatic 88, 3) := by decide +kernel
theorem dJ1_indexOf_4cfef_4 : decode fJ1_indexOf_4cfef.2.1 4 = .ok (.ifCond .ne 5, 3) := by decide +kernel
theorem dJ1_indexOf_4cfef_7 : decode fJ1_indexOf_4cfef.2.1 7 = .ok (.iconst (-1), 1) := by decide +kernel
theorem dJ1_indexOf_4cfef_8 : decode fJ1_indexOf_4cfef.2.1 8 = .ok (.ireturn, 1) := by decide +kernel
theorem dJ1_indexOf_4cfef_9 : decode fJ1_indexOf_4cfef.2.1 9 = .ok (.iload_n 2, 1) := by decide +kernel
theorem dJ1_indexOf_4cfef_10 : decode fJ1_indexOf_4cfef.2.1 10 = .ok (.iconst 0, 1) := by decide +kernel
theorem dJ1_indexOf_4cfef_11 : decode fJ1_indexOf_4cfef.2.1 11 = .ok (.invokestatic 92, 3) := by decide +kernel
theorem dJ1_indexOf_4cfef_14 : decode fJ1_indexOf_4cfef.2.1 14 = .ok (.istore_n 2, 1) := by decide +kernel
theorem dJ1_indexOf_4cfef_15 : decode fJ1_indexOf_4cfef.2.1 15 = .ok (.iload_n 3, 1) := by decide +kernel
theorem dJ1_indexOf_4cfef_16 : decode fJ1_indexOf_4cfef.2.1 16 = .ok (.aload_n 0, 1) := by decide +kernel
theorem dJ1_indexOf_4cfef_17 : decode fJ1_indexOf_4cfef.2.1 17 = .ok (.arraylength, 1) := by decide +kernel
theorem dJ1_indexOf_4cfef_18 : decode fJ1_indexOf_4cfef.2.1 18 = .ok (.invokestatic 38, 3) := by decide +kernel
theorem dJ1_indexOf_4cfef_21 : decode fJ1_indexOf_4cfef.2.1 21 = .ok (.istore_n 3, 1) := by decide +kernel
theorem dJ1_indexOf_4cfef_22 : decode fJ1_indexOf_4cfef.2.1 22 = .ok (.iload_n 2, 1) := by decide +kernel
theorem dJ1_indexOf_4cfef_23 : decode fJ1_indexOf_4cfef.2.1 23 = .ok (.iload_n 3, 1) := by decide +kernel
theorem dJ1_indexOf_4cfef_24 : decode fJ1_indexOf_4cfef.2.1 24 = .ok (.if_icmp .lt 5, 3) := by decide +kernel
theorem dJ1_indexOf_4cfef_27 : decode fJ1_indexOf_4cfef.2.1 27 = .ok (.iconst (-1), 1) := by decide +kernel
theorem dJ1_indexOf_4cfef_28 : decode fJ1_indexOf_4cfef.2.1 28 = .ok (.ireturn, 1) := by decide +kernel
theorem dJ1_indexOf_4cfef_29 : decode fJ1_indexOf_4cfef.2.1 29 = .ok (.aload_n 0, 1) := by decide +kernel
theorem dJ1_indexOf_4cfef_30 : decode fJ1_indexOf_4cfef.2.1 30 = .ok (.iload_n 1, 1) := by decide +kernel
theorem dJ1_indexOf_4cfef_31 : decode fJ1_indexOf_4cfef.2.1 31 = .ok (.iload_n 2, 1) := by decide +kernel
theorem dJ1_indexOf_4cfef_32 : decode fJ1_indexOf_4cfef.2.1 32 = .ok (.iload_n 3, 1) := by decide +kernel
theorem dJ1_indexOf_4cfef_33 : decode fJ1_indexOf_4cfef.2.1 33 = .ok (.invokestatic 95, 3) := by decide +kernel
theorem dJ1_indexOf_4cfef_36 : decode fJ1_indexOf_4cfef.2.1 36 = .ok (.ireturn, 1) := by decide +kernel
set_option maxRecDepth 100000 in
set_option maxHeartbeats 4000000 in
theorem ok_J1_indexOf_4cfef {X : Xb} {S : Sg} {mi : Mem} {i j : Nat} (hi : i < 6) (hj : j < 128) : OkI 1 fJ1_indexOf_4cfef X [.ref (sV X i), .int (nI j), .int 0, .int (nI (sN i))] S mi (ixF i (nI j) (sN i) 0) mi := by
  refine Ok.go [some (.ref (sV X i)), some (.int (nI j)), some (.int 0), some (.int (nI (sN i)))] (by decide) (by simp [Value.category]) (Nat.le_of_ble_eq_true rfl) rfl ?_
  have hN : ∀ i, i < 6 → sN i < 5 ∧ 0 < sN i := by decide
  have hn := hN i hi
  refine mw_iload_n dJ1_indexOf_4cfef_0 rfl ?_
  refine mw_cSI (g := fJ1_canEncode_9a6ad) dJ1_indexOf_4cfef_1 ml_J1_88 mfJ1_canEncode_9a6ad (ok_J1_canEncode_9a6ad) rfl rfl (Nat.le_of_ble_eq_true rfl) ⟨by decide, by decide⟩ ⟨by decide, by decide⟩ ?_
  refine mw_if_neB (tgt := 9) dJ1_indexOf_4cfef_4 (by decide) (fun h4 => ?_) (fun h4 => ?_)
  · skip
    refine mw_iload_n dJ1_indexOf_4cfef_9 rfl ?_
    refine mw_iconst (v := 0) dJ1_indexOf_4cfef_10 (by decide) ?_
    refine mw_mmax dJ1_indexOf_4cfef_11 ml_J1_92 (Nat.le_of_ble_eq_true rfl) ⟨by decide, by decide⟩ ⟨by decide, by decide⟩ ?_
    rw [show (if (0 : Int32) < 0 then (0 : Int32) else 0) = 0 from by decide]
    refine mw_istN 2 dJ1_indexOf_4cfef_14 rfl (by decide) ?_
    refine mw_iload_n dJ1_indexOf_4cfef_15 rfl ?_
    refine mw_aload_n dJ1_indexOf_4cfef_16 rfl ?_
    refine mw_bln i hi dJ1_indexOf_4cfef_17 ?_
    refine mw_mmin dJ1_indexOf_4cfef_18 ml_J1_38 (Nat.le_of_ble_eq_true rfl) ⟨by decide, by decide⟩ ⟨by decide, by decide⟩ ?_
    rw [ite_self]
    refine mw_istN 3 dJ1_indexOf_4cfef_21 rfl (by decide) ?_
    refine mw_iload_n dJ1_indexOf_4cfef_22 rfl ?_
    refine mw_iload_n dJ1_indexOf_4cfef_23 rfl ?_
    refine mw_icmp_lt (tgt := 29) dJ1_indexOf_4cfef_24 (by decide) (fun h24 => ?_) (fun h24 => ?_)
    · skip
      refine mw_aload_n dJ1_indexOf_4cfef_29 rfl ?_
      refine mw_iload_n dJ1_indexOf_4cfef_30 rfl ?_
      refine mw_iload_n dJ1_indexOf_4cfef_31 rfl ?_
      refine mw_iload_n dJ1_indexOf_4cfef_32 rfl ?_
      refine mw_cSI (g := fJ1_indexOfChar_4cfef) dJ1_indexOf_4cfef_33 ml_J1_95 mfJ1_indexOfChar_4cfef (ok_J1_indexOfChar_4cfef hi hj) rfl rfl (Nat.le_of_ble_eq_true rfl) ⟨by decide, by decide⟩ ⟨by decide, by decide⟩ ?_
      exact mw_iret dJ1_indexOf_4cfef_36 rfl (by decide) (by decide) (⟨rfl, rfl, rfl⟩)
    · skip
      exact absurd (nI_lt (a := 0) hn.2 (by omega)) h24
  · skip
    exact absurd ⟨nI_pos' (by omega), nI_le (b := 255) (by omega) (by decide)⟩ h4
theorem dJ0_indexOf_7cf53_0 : decode fJ0_indexOf_7cf53.2.1 0 = .ok (.aload_n 0, 1) := by decide +kernel
theorem dJ0_indexOf_7cf53_1 : decode fJ0_indexOf_7cf53.2.1 1 = .ok (.invokevirtual 492, 3) := by decide +kernel
theorem dJ0_indexOf_7cf53_4 : decode fJ0_indexOf_7cf53.2.1 4 = .ok (.ifCond .eq 19, 3) := by decide +kernel
theorem dJ0_indexOf_7cf53_7 : decode fJ0_indexOf_7cf53.2.1 7 = .ok (.aload_n 0, 1) := by decide +kernel
theorem dJ0_indexOf_7cf53_8 : decode fJ0_indexOf_7cf53.2.1 8 = .ok (.getfield 9, 3) := by decide +kernel
theorem dJ0_indexOf_7cf53_11 : decode fJ0_indexOf_7cf53.2.1 11 = .ok (.iload_n 1, 1) := by decide +kernel
theorem dJ0_indexOf_7cf53_12 : decode fJ0_indexOf_7cf53.2.1 12 = .ok (.iload_n 2, 1) := by decide +kernel
theorem dJ0_indexOf_7cf53_13 : decode fJ0_indexOf_7cf53.2.1 13 = .ok (.aload_n 0, 1) := by decide +kernel
theorem dJ0_indexOf_7cf53_14 : decode fJ0_indexOf_7cf53.2.1 14 = .ok (.invokevirtual 505, 3) := by decide +kernel
theorem dJ0_indexOf_7cf53_17 : decode fJ0_indexOf_7cf53.2.1 17 = .ok (.invokestatic 637, 3) := by decide +kernel
theorem dJ0_indexOf_7cf53_20 : decode fJ0_indexOf_7cf53.2.1 20 = .ok (.goto 16, 3) := by decide +kernel
theorem dJ0_indexOf_7cf53_23 : decode fJ0_indexOf_7cf53.2.1 23 = .ok (.aload_n 0, 1) := by decide +kernel
theorem dJ0_indexOf_7cf53_24 : decode fJ0_indexOf_7cf53.2.1 24 = .ok (.getfield 9, 3) := by decide +kernel
theorem dJ0_indexOf_7cf53_27 : decode fJ0_indexOf_7cf53.2.1 27 = .ok (.iload_n 1, 1) := by decide +kernel
theorem dJ0_indexOf_7cf53_28 : decode fJ0_indexOf_7cf53.2.1 28 = .ok (.iload_n 2, 1) := by decide +kernel
theorem dJ0_indexOf_7cf53_29 : decode fJ0_indexOf_7cf53.2.1 29 = .ok (.aload_n 0, 1) := by decide +kernel
theorem dJ0_indexOf_7cf53_30 : decode fJ0_indexOf_7cf53.2.1 30 = .ok (.invokevirtual 505, 3) := by decide +kernel
theorem dJ0_indexOf_7cf53_33 : decode fJ0_indexOf_7cf53.2.1 33 = .ok (.invokestatic 640, 3) := by decide +kernel
theorem dJ0_indexOf_7cf53_36 : decode fJ0_indexOf_7cf53.2.1 36 = .ok (.ireturn, 1) := by decide +kernel
set_option maxRecDepth 100000 in
set_option maxHeartbeats 4000000 in
theorem ok_J0_indexOf_7cf53 {X : Xb} {S : Sg} {mi : Mem} {i j : Nat} (hi : i < 6) (hj : j < 128) : OkI 2 fJ0_indexOf_7cf53 X [.ref (sK X i), .int (nI j), .int 0] S mi (ixF i (nI j) (sN i) 0) mi := by
  refine Ok.go [some (.ref (sK X i)), some (.int (nI j)), some (.int 0)] (by decide) (by simp [Value.category]) (Nat.le_of_ble_eq_true rfl) rfl ?_
  refine mw_aload_n dJ0_indexOf_7cf53_0 rfl ?_
  refine mw_cKI (g := fJ0_isLatin1_aae02) i hi dJ0_indexOf_7cf53_1 ml_J0_492 mkJ0_isLatin1_aae02 (ok_J0_isLatin1_aae02 hi) rfl rfl (Nat.le_of_ble_eq_true rfl) ⟨by decide, by decide⟩ ⟨by decide, by decide⟩ ?_
  refine mw_if_eq (tgt := 23) dJ0_indexOf_7cf53_4 (by decide) (fun h4 => ?_) (fun h4 => ?_)
  · skip
    exact absurd h4 (by decide)
  · skip
    refine mw_aload_n dJ0_indexOf_7cf53_7 rfl ?_
    refine mw_gSv i hi rfl dJ0_indexOf_7cf53_8 ?_
    refine mw_iload_n dJ0_indexOf_7cf53_11 rfl ?_
    refine mw_iload_n dJ0_indexOf_7cf53_12 rfl ?_
    refine mw_aload_n dJ0_indexOf_7cf53_13 rfl ?_
    refine mw_cKI (g := fJ0_length_8abf5) i hi dJ0_indexOf_7cf53_14 ml_J0_505 mkJ0_length_8abf5 (ok_J0_length_8abf5 hi) rfl rfl (Nat.le_of_ble_eq_true rfl) ⟨by decide, by decide⟩ ⟨by decide, by decide⟩ ?_
    refine mw_cSI (g := fJ1_indexOf_4cfef) dJ0_indexOf_7cf53_17 ml_J0_637 mfJ1_indexOf_4cfef (ok_J1_indexOf_4cfef hi hj) rfl rfl (Nat.le_of_ble_eq_true rfl) ⟨by decide, by decide⟩ ⟨by decide, by decide⟩ ?_
    refine mw_goto (tgt := 36) dJ0_indexOf_7cf53_20 (by decide) ?_
    exact mw_iret dJ0_indexOf_7cf53_36 rfl (by decide) (by decide) (⟨rfl, rfl, rfl⟩)
theorem dJ0_indexOf_0f7a4_0 : decode fJ0_indexOf_0f7a4.2.1 0 = .ok (.aload_n 0, 1) := by decide +kernel
theorem dJ0_indexOf_0f7a4_1 : decode fJ0_indexOf_0f7a4.2.1 1 = .ok (.iload_n 1, 1) := by decide +kernel
theorem dJ0_indexOf_0f7a4_2 : decode fJ0_indexOf_0f7a4.2.1 2 = .ok (.iconst 0, 1) := by decide +kernel
theorem dJ0_indexOf_0f7a4_3 : decode fJ0_indexOf_0f7a4.2.1 3 = .ok (.invokevirtual 633, 3) := by decide +kernel
theorem dJ0_indexOf_0f7a4_6 : decode fJ0_indexOf_0f7a4.2.1 6 = .ok (.ireturn, 1) := by decide +kernel
set_option maxRecDepth 100000 in
set_option maxHeartbeats 4000000 in
theorem ok_J0_indexOf_0f7a4 {X : Xb} {S : Sg} {mi : Mem} {i j : Nat} (hi : i < 6) (hj : j < 128) : OkI 3 fJ0_indexOf_0f7a4 X [.ref (sK X i), .int (nI j)] S mi (ixF i (nI j) (sN i) 0) mi := by
  refine Ok.go [some (.ref (sK X i)), some (.int (nI j))] (by decide) (by simp [Value.category]) (Nat.le_of_ble_eq_true rfl) rfl ?_
  refine mw_aload_n dJ0_indexOf_0f7a4_0 rfl ?_
  refine mw_iload_n dJ0_indexOf_0f7a4_1 rfl ?_
  refine mw_iconst (v := 0) dJ0_indexOf_0f7a4_2 (by decide) ?_
  refine mw_cKI (g := fJ0_indexOf_7cf53) i hi dJ0_indexOf_0f7a4_3 ml_J0_633 mkJ0_indexOf_7cf53 (ok_J0_indexOf_7cf53 hi hj) rfl rfl (Nat.le_of_ble_eq_true rfl) ⟨by decide, by decide⟩ ⟨by decide, by decide⟩ ?_
  exact mw_iret dJ0_indexOf_0f7a4_6 rfl (by decide) (by decide) (⟨rfl, rfl, rfl⟩)
