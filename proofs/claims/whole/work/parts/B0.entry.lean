/-! THE CLAIM OUT OF ONE WALK OF THE LAW'S BODY. Your part is whole_start (and what it stands on); all else here is the same for every law, but numbers. -/
def R_law : String := "AtticStarsLaw"
def lw_P (b : Addr) (xs : List Int32) (args : Array Value) (s : State) : Prop := args = #[.ref b] ∧ s.IntsAt b xs ∧ xs.length ≤ 3072 ∧ (Jvm.Cond.and given_1 narrow_1).before args s = true
def lw_Q (_ : Array Value) (s : State) (o : Outcome) (t : State) : Prop := o = .returned (some (.int 1)) ∧ Framed s o t [] 600000 7302250
def lw_Z (below : List Frame) (a : Array Value) (s : State) : State → Prop := fun t => ∃ o, t.status = .running ∧ Ended t below o ∧ lw_Q a s o t
/-- the law's own end, with 1 on the stack, nothing written that was there before, its room as the claim has it -/
theorem lw_ret {p : Program} {l : Launch} {e : Env} {s : State} {m : MethodId} {below : List Frame} {meth : Method} {c : Code} {b : Nat} (hx : p.tables.exec = Jvm.exec) (hb : c.code = code) (hr : meth.sig.returnType = ret) (hlocks : meth.locks = false) {pc : Nat} {H : Heap} {ls : Array Slot} (hdg : decode code pc = .ok (.ireturn, 1)) : W p l e room_1 s m #[Value.ref b] below meth c H [] 600000 7302250 (lw_Z below #[Value.ref b] s) (F0 m pc ls [.int 1]) := by
  intro T hT X
  obtain ⟨fs, hret, hrun, hended, hW, hframe⟩ := X.leave (v := some (.int 1)) (hlocks := hlocks) (fun h => by rw [hr] at h; cases h)
  have hmeth' : T.vm.method? m = some meth := X.method'
  refine ⟨T.setFrames fs, ?_, .returned (some (.int 1)), hrun, hended, rfl, ⟨_, rfl⟩, hW, hframe⟩
  jvm_step X.here [X.here.top, hx, hb, hdg, hmeth', hr, ret, narrow_b1]
  (try refine ⟨rfl, ?_⟩); (try refine ⟨rfl, ?_⟩)
  first | (intro acts; rw [hret _ acts rfl rfl rfl]) | rw [hret _ _ rfl rfl rfl]
  exact Steps.refl _
/-- what holds at the law's entry: the machine, the code, the tables' words (any of lw_tbl by 'hts w (by decide +kernel)'), the script of L ints xs at the cell b, what the Statement gives of the start (any of its parts by flat_of_before) -/
def lw_At (p : Program) (s : State) (m : MethodId) (meth : Method) (c : Code) (b L : Nat) (xs : Nat → Int32) : Prop :=
  p.tables.exec = Jvm.exec ∧ c.code = code ∧ meth.sig.returnType = ret ∧ c.maxLocals = 4 ∧ s.vm.findClass R_law = some m.cls ∧ (∀ w ∈ lw_tbl, w.before #[Value.ref b] s = true) ∧ va_X b L xs s s.heap ∧ b < s.heap.size ∧ meth.locks = false ∧ (Jvm.Cond.and given_1 narrow_1).before #[Value.ref b] s = true
/-! what stands at the entry -/
theorem nestW_at : nestW = ([92, 195, 240, 258, 263, 265, 374, 388, 404, 405, 578] : List Nat).filterMap (fun i => lw_tbl[i]?) := by decide +kernel
theorem nestW_on : nestW.all (fun w => w.onTables) = true := by decide +kernel
theorem arrP {ty : FieldType} {args : Array Value} {s : State} (h : (Cond.arrayClass ty).before args s = true) : ∃ cA : ClassId, ArrOfT s cA ty ∧ s.vm.findClass ("[" ++ ty.toString) = some cA := by
  obtain ⟨c, k, comp, h1, h2, h3⟩ := Cond.arrayClass_spec h
  exact ⟨c, fun n z => ⟨fun k h => (by cases h), k, h2, comp, h3⟩, h1⟩
theorem arrO {C : String} {args : Array Value} {s : State} (h : (Cond.arrayOver (.object C)).before args s = true) : ∃ cA : ClassId, ArrOfT s cA (.object C) ∧ va_RA s cA (.object C) := by
  obtain ⟨comp, c, k, h1, h2, h3, h4, h5⟩ := Cond.arrayOver_spec h
  exact ⟨c, fun n z => ⟨fun k h => (by cases h), k, h3, comp, h4⟩, ⟨k, comp, h3, h4, h1, h5⟩⟩
abbrev Gv : List Cond := flatC (Jvm.Cond.and given_1 narrow_1)
abbrev kaT : Term := .static RX6 "KIND_ABOVE" "[I"
abbrev tmS (i : Nat) : Term := .string RX3 (sIdx i)
abbrev vlS (i : Nat) : Term := .field (tmS i) "java/lang/String" "value" "[B"
abbrev kaV (j : Nat) : Int32 := ([-1, 0, 0, 1, 2, 0] : List Int32).getD j 0
theorem gv_arr : Cond.arrayOf kaT .int ∈ Gv := by decide +kernel
theorem gv_len : Cond.eq (.length kaT) (.int (Int32.ofNat 6)) ∈ Gv := by decide +kernel
theorem gv_el : ∀ j, j < 6 → Cond.eq (.elem kaT (.int (Int32.ofNat j))) (.int (kaV j)) ∈ Gv := by decide +kernel
theorem gv_cs : Cond.eq (.static RJ0 "COMPACT_STRINGS" "Z") (.int 1) ∈ Gv := by decide +kernel
theorem gv_sf : Cond.isRef (.static RJ3 "SIOOBE_FORMATTER" "Ljava/util/function/BiFunction;") ∈ Gv := by decide +kernel
theorem gv_ex : ∀ i, i < 6 → Cond.exactly (tmS i) "java/lang/String" ∈ Gv := by decide +kernel
theorem gv_co : ∀ i, i < 6 → Cond.eq (.field (tmS i) "java/lang/String" "coder" "B") (.int 0) ∈ Gv := by decide +kernel
theorem gv_ar : ∀ i, i < 6 → Cond.arrayOf (vlS i) .byte ∈ Gv := by decide +kernel
theorem gv_le : ∀ i, i < 6 → Cond.eq (.length (vlS i)) (.int (Int32.ofNat (sLen.getD i 0))) ∈ Gv := by decide +kernel
theorem gv_by : ∀ i, i < 6 → ∀ j, j < sLen.getD i 0 → Cond.eq (.elem (vlS i) (.int (Int32.ofNat j))) (.int ((sByt.getD i []).getD j 0)) ∈ Gv := by decide +kernel
theorem gv_ne : ∀ i, i < 6 → ∀ j, j < 6 → i < j → Cond.not (Cond.eq (tmS i) (tmS j)) ∈ Gv := by decide +kernel
theorem sLen_lt : ∀ i, i < 6 → sLen.getD i 0 < 2 ^ 31 := by decide +kernel
theorem tb_sr : ∀ i, i < 6 → lw_tbl[([633, 686, 687, 712, 713, 714] : List Nat).getD i 0]? = some (Cond.stringRef RX3 (sIdx i) (sTx i)) := by decide +kernel
theorem tb_ka : Cond.laysStatic RX6 "KIND_ABOVE" "[I" ∈ lw_tbl := List.mem_of_getElem? (i := 406) (by decide +kernel)
theorem tb_cs : Cond.laysStatic RJ0 "COMPACT_STRINGS" "Z" ∈ lw_tbl := List.mem_of_getElem? (i := 647) (by decide +kernel)
theorem tb_sf : Cond.laysStatic RJ3 "SIOOBE_FORMATTER" "Ljava/util/function/BiFunction;" ∈ lw_tbl := List.mem_of_getElem? (i := 663) (by decide +kernel)
theorem tb_i6 : Cond.initialized RX6 ∈ lw_tbl := List.mem_of_getElem? (i := 57) (by decide +kernel)
theorem tb_ij : Cond.initialized RJ0 ∈ lw_tbl := List.mem_of_getElem? (i := 68) (by decide +kernel)
theorem tb_ip : Cond.initialized RJ3 ∈ lw_tbl := List.mem_of_getElem? (i := 70) (by decide +kernel)
theorem tb_a0 : Cond.arrayClass .int ∈ lw_tbl := List.mem_of_getElem? (i := 122) (by decide +kernel)
theorem tb_a1 : Cond.arrayClass .boolean ∈ lw_tbl := List.mem_of_getElem? (i := 1009) (by decide +kernel)
theorem tb_a2 : Cond.arrayClass .char ∈ lw_tbl := List.mem_of_getElem? (i := 1008) (by decide +kernel)
theorem tb_o0 : Cond.arrayOver (.object RX0) ∈ lw_tbl := List.mem_of_getElem? (i := 88) (by decide +kernel)
theorem tb_o1 : Cond.arrayOver (.object RX1) ∈ lw_tbl := List.mem_of_getElem? (i := 236) (by decide +kernel)
theorem tb_o2 : Cond.arrayOver (.object RX2) ∈ lw_tbl := List.mem_of_getElem? (i := 238) (by decide +kernel)
theorem tb_o4 : Cond.arrayOver (.object RX4) ∈ lw_tbl := List.mem_of_getElem? (i := 90) (by decide +kernel)
theorem lw_fx {p : Program} {s : State} {m : MethodId} {meth : Method} {c : Code} {b L : Nat} {xs : Nat → Int32} (C0 : lw_At p s m meth c b L xs) : ∃ (D : va_G) (dA : Nat → ClassId) (t : Nat) (adK adV : Nat → Nat), Fx (s.heap.size, D, dA, t, adK, adV, b, L, xs) s := by
  obtain ⟨hx, hb, hr, hml, hown, hts, hX, hbl, hlocks, hgv⟩ := C0
  have hs := flat_of_before _ hgv
  have hTW : ∀ w ∈ TW, w.before #[Value.ref b] s = true := fun w hw => hts w (List.mem_filter.mp hw).1
  have hA : ∀ a : Nat, a < s.heap.size → ¬ (fun q : Nat => s.heap.size ≤ q) a := fun a h => Nat.not_le.mpr h
  have hK : ∀ ci : Nat, ∃ q : ClassId × (Nat → Nat), ∀ r : vw_C, vwCl[ci]? = some r → u_Kn s r.1 r.2.1 r.2.2 q.1 q.2 := fun ci => by
    cases h : vwCl[ci]? with
    | none => exact ⟨(m.cls, fun _ => 0), fun r hr => by cases hr⟩
    | some r =>
      have k := ci_all ci r h
      obtain ⟨cC, iS, hk⟩ := u_known hTW k.1 (hTW _ k.2.2.2.2.1)
      exact ⟨(cC, iS), fun r' hr' => by cases hr'; exact hk⟩
  obtain ⟨g, hg⟩ := Classical.axiomOfChoice hK
  obtain ⟨a0, p0, q0⟩ := arrP (hts _ tb_a0)
  obtain ⟨a1, p1, q1⟩ := arrP (hts _ tb_a1)
  obtain ⟨a2, p2, q2⟩ := arrP (hts _ tb_a2)
  obtain ⟨a3, p3, q3⟩ := arrO (hts _ tb_o0)
  obtain ⟨a4, p4, q4⟩ := arrO (hts _ tb_o1)
  obtain ⟨a5, p5, q5⟩ := arrO (hts _ tb_o2)
  obtain ⟨a6, p6, q6⟩ := arrO (hts _ tb_o4)
  obtain ⟨tk, hk1, hk2⟩ := va_Tof (tm := kaT) (ty := .int) (N := 6) (f := kaF) (A := fun q : Nat => s.heap.size ≤ q) (by decide) (hs _ gv_arr) (va_eqt (hs _ gv_len)) (fun j hj => va_eqt (hs _ (gv_el j hj))) hA
  obtain ⟨adK, adV, hS, hE⟩ := vk_Sof (N := 6) (tm := tmS) (len := sLen) (byt := sByt) (A := fun q : Nat => s.heap.size ≤ q) sLen_lt (fun i hi => hs _ (gv_ex i hi)) (fun i hi => hs _ (gv_co i hi)) (fun i hi => hs _ (gv_ar i hi)) (fun i hi => hs _ (gv_le i hi)) (fun i hi j hj => hs _ (gv_by i hi j hj)) (fun i j hi hj hne => by
    rcases Nat.lt_or_gt_of_ne hne with h | h
    · exact Or.inl (hs _ (gv_ne i hi j hj h))
    · exact Or.inr (hs _ (gv_ne j hj i hi h))) hA
  refine ⟨(fun k => (g k).1, fun k => (g k).2), fun k => if k = 0 then a0 else if k = 1 then a1 else if k = 2 then a2 else if k = 3 then a3 else if k = 4 then a4 else if k = 5 then a5 else a6, tk, adK, adV, ⟨fun ci r h => hg ci r h, fun k q h => ?_⟩, fun w hw => ?_, fun C hC => ?_, va_Zref (hts _ tb_ka) (hts _ tb_i6) hk1 hA, hk2, hS, fun i hi => vk_R.of (hts _ (List.mem_of_getElem? (tb_sr i hi))) (hE i hi), va_Zof (hts _ tb_cs) (hts _ tb_ij) (va_eqi (hs _ gv_cs)) hA, va_Zqof (hts _ tb_sf) (hts _ tb_ip) (hs _ gv_sf) hA, hX, hbl⟩
  · match k, h with
    | 0, h => cases h; exact ⟨p0, q0⟩
    | 1, h => cases h; exact ⟨p1, q1⟩
    | 2, h => cases h; exact ⟨p2, q2⟩
    | 3, h => cases h; exact ⟨p3, q3⟩
    | 4, h => cases h; exact ⟨p4, q4⟩
    | 5, h => cases h; exact ⟨p5, q5⟩
    | 6, h => cases h; exact ⟨p6, q6⟩
    | k + 7, h => simp [tysOf] at h
  · have ho := List.all_eq_true.mp nestW_on w hw
    rw [nestW_at] at hw
    obtain ⟨i, -, hi⟩ := List.mem_filterMap.mp hw
    exact va_Nw.of ho (hts w (List.mem_of_getElem? hi))
  · have h4 : C = RX0 ∨ C = RX1 ∨ C = RX2 ∨ C = RX4 := by simpa [aoC] using hC
    rcases h4 with rfl | rfl | rfl | rfl
    · exact va_AO.of (hts _ tb_o0)
    · exact va_AO.of (hts _ tb_o1)
    · exact va_AO.of (hts _ tb_o2)
    · exact va_AO.of (hts _ tb_o4)
