theorem math_max : Cond.static Lib.Math.max.name ∈ TW ∧ Cond.code Lib.Math.max.name Lib.Math.max.code 2 (some .int) ∈ TW := ⟨TW_of 393 (by decide +kernel) (by decide +kernel), TW_of 394 (by decide +kernel) (by decide +kernel)⟩
theorem math_min : Cond.static Lib.Math.min.name ∈ TW ∧ Cond.code Lib.Math.min.name Lib.Math.min.code 2 (some .int) ∈ TW := ⟨TW_of 345 (by decide +kernel) (by decide +kernel), TW_of 346 (by decide +kernel) (by decide +kernel)⟩
theorem math_abs : Cond.static Lib.Math.abs.name ∈ TW ∧ Cond.code Lib.Math.abs.name Lib.Math.abs.code 1 (some .int) ∈ TW := ⟨TW_of 581 (by decide +kernel) (by decide +kernel), TW_of 582 (by decide +kernel) (by decide +kernel)⟩
theorem math_ini : Cond.initialized "java/lang/Math" ∈ TW := TW_of 64 (by decide +kernel) (by decide +kernel)
theorem obj_ok : Cond.instanceMethod Lib.objectInit ∈ TW ∧ Cond.code Lib.objectInit ⟨#[0xb1]⟩ 1 none ∈ TW := ⟨TW_of 79 (by decide +kernel) (by decide +kernel), TW_of 80 (by decide +kernel) (by decide +kernel)⟩
theorem acopy_ok : Cond.native arraycopyName ∈ TW ∧ Cond.static arraycopyName ∈ TW ∧ Cond.initialized "java/lang/System" ∈ TW := ⟨TW_of 524 (by decide +kernel) (by decide +kernel), TW_of 523 (by decide +kernel) (by decide +kernel), TW_of 67 (by decide +kernel) (by decide +kernel)⟩
theorem arr_int : Cond.arrayClass .int ∈ TW := TW_of 122 (by decide +kernel) (by decide +kernel)
theorem arr_boolean : Cond.arrayClass .boolean ∈ TW := TW_of 1009 (by decide +kernel) (by decide +kernel)
theorem arr_char : Cond.arrayClass .char ∈ TW := TW_of 1008 (by decide +kernel) (by decide +kernel)
def MF (g : Fr) (n : Nat) : Prop := Cond.code g.1 g.2.1 g.2.2.1 g.2.2.2 ∈ TW ∧ Cond.initialized g.1.cls ∈ TW ∧ (g.1.cls ≠ "java/lang/invoke/MethodHandle" ∧ g.1.cls ≠ "java/lang/invoke/VarHandle" ∧ (parseMethodDescriptor g.1.desc).map (fun d => d.parameters.length) = some n) ∧ g.2.2.1 ≤ 21
def MFV (g : Fr) (n ci : Nat) : Prop := MF g n ∧ Cond.instanceMethod g.1 ∈ TW ∧ Cond.selects g.1.cls g.1 g.1 ∈ TW ∧ ∃ q : vw_C, vwCl[ci]? = some q ∧ q.1 = g.1.cls
def MFS (g : Fr) (n : Nat) : Prop := MF g n ∧ Cond.static g.1 ∈ TW
def MFI (g : Fr) (n : Nat) : Prop := MF g n ∧ Cond.instanceMethod g.1 ∈ TW ∧ g.1.name = "<init>" ∧ g.2.2.2 = none
theorem goodTW {g : Fr} (h : Cond.code g.1 g.2.1 g.2.2.1 g.2.2.2 ∈ TW) : GoodIn TW (.code g.1 g.2.1 g.2.2.1 g.2.2.2 :: TW) := by
  have h1 : ∀ w ∈ TW, w ∈ TW ∧ ((w.onTables && w.keeps) = true ∨ ∃ ty, w = .arrayClass ty) := fun w hw => ⟨hw, good_of_word (List.mem_filter.mp hw).2⟩
  intro w hw
  rcases List.mem_cons.mp hw with rfl | hw
  · exact h1 _ h
  · exact h1 w hw
theorem Pre3_blind {X : Xb} {S : Sg} {mi : Mem} {av : List Value} : FrameBlind (va_Pc av (Pre3 X S mi)) := by
  intro a U g mk h
  obtain ⟨h1, h2, h3⟩ := h
  refine ⟨h1, h2, ?_⟩
  exact h3.go (U := U.calling g mk a) (by rw [h2.1]; exact Nat.le_add_right _ _) (State.WarmedH.refl U) (fun q _ _ => rfl)
section MWC
variable {X : Xb} {fr : Fr} {R : Room} {kc sl pc : Nat} {L : List (Option Value)} {st st0 : List Value} {S : Sg} {mi : Mem} {Q : Qt}
theorem Pre3_at {p : Program} {s : State} {m : MethodId} {args : Array Value} {meth : Method} {c : Code} {H : Heap} {locs : List Loc} (C : Cx fr X p s m args meth c) (hS : va_S (bA X) s.heap H locs) (hP : Wp X S mi H) {av : List Value} : ∀ U : State, U.heap = H → s.WarmedH U.vm → va_Pc av (Pre3 X S mi) av.toArray U := by
  intro U hU hW
  subst hU
  exact ⟨rfl, hP, C.2.2.2.2.2.2.2.2.2.go C.2.2.2.2.2.2.2.2.1 hW hS.2.1⟩
theorem W_call {p : Program} {l : Launch} {e : Env} {s : State} {m : MethodId} {args : Array Value} {below : List Frame} {meth : Method} {c : Code} {H : Heap} {locs : List Loc} {ls : Array Slot} {mc ms : Nat} {P : Pt3} {av : Array Value} (C : Cx fr X p s m args meth c) (hS : va_S (bA X) s.heap H locs) (hL : Lv ls fr.2.2.1 L)
    (run : va_Run p l e R s m args below meth c H locs kc sl mc ms (F0 m pc ls st0) st (Qc3 X P av) (bA X)) (kk : ∀ r S' mi', P r S' mi' → MW X fr R (kc + mc) (sl + ms) (pc + 3) L (r.toList ++ st) S' mi' Q) : W p l e R s m args below meth c H locs kc sl (Q below args s) (F0 m pc ls st0) := by
  intro T hT Y
  obtain ⟨v, st₀, t, T', Lc, h0, X', hLc, e1, e2, ⟨⟨r, S', mi', hv, hp, hw⟩, hz, hk⟩, stp⟩ := run T hT Y
  cases hv
  rw [h0] at hz hk
  have hS' : va_S (bA X) s.heap T'.heap (locs ++ Lc) := ⟨Nat.le_trans hS.1 (by rw [e1]; exact hz), fun q h1 h2 => by rw [e1, hk q (Nat.lt_of_lt_of_le h1 hS.1) h2]; exact hS.2.1 q h1 h2, fun q hq => by
      rcases List.mem_append.mp hq with h | h
      · exact hS.2.2 q h
      · exact hLc q h⟩
  obtain ⟨t2, a1, b1⟩ := kk v S' mi' hp p l e s m args below meth c T'.heap (locs ++ Lc) ls C hS' (by rw [e1]; exact hw) hL T' rfl X'
  exact ⟨t2, stp t2 a1, b1⟩
theorem mw_callV {d mc ms n ci i z idx : Nat} {g : Fr} {As : List Value} {P : Pt3} (hd : decode fr.2.1 pc = .ok (.invokevirtual idx, 3)) (hl : Cond.methodLink fr.1.cls idx g.1 ∈ TW) (hm : MFV g n ci) (hok : Ok d mc ms g X (.ref (X.1 + i) :: As) S mi P) (hk : Kd S i ci z) (hn : As.length = n) (hst : st0 = As.reverse ++ .ref (X.1 + i) :: st) (hr : (st.map fun v => v.category).sum ≤ 8) (hR : d + 1 ≤ R.frames ∧ 40 + 40 * d ≤ R.locals) (hc : kc + mc ≤ R.cells ∧ sl + ms ≤ R.slots)
    (kk : ∀ r S' mi', P r S' mi' → MW X fr R (kc + mc) (sl + ms) (pc + 3) L (r.toList ++ st) S' mi' Q) : MW X fr R kc sl pc L st0 S mi Q := by
  intro p l e s m args below meth c H locs ls C hS hP hL
  obtain ⟨⟨m1, m2, m3, m4⟩, m5, m6, q, m7, m8⟩ := hm
  obtain ⟨g1, g2, g3, -⟩ := ci_all ci q m7
  have hts := C.2.2.2.2.1
  have cb : CallB R s args fr.1.cls idx g.1 g.2.1 g.2.2.1 g.2.2.2 (.code g.1 g.2.1 g.2.2.1 g.2.2.2 :: TW) (rmOf d mc ms) mc ms n := callB_of n hts (goodTW m1) rfl rfl rfl (hts _ m2) (hts _ hl) m3 ⟨hR.1, by show 8 + (g.2.2.1 + 11) + 40 * d ≤ R.locals; omega⟩
  have hrecv := va_recv C.2.2.2.2.2.2.2.2.2.1 hP.2 m7 (by rw [ws_at hk.1, cell_obj hk g2])
  rw [m8] at hrecv
  exact W_call C hS hL (va_runV ⟨C.1, C.2.1, C.2.2.1, C.2.2.2.1, hts⟩ (hok l) ⟨cb, hts _ m5, hts _ m6⟩ ⟨Pre3_blind, hrecv, Pre3_at C hS hP⟩ rfl hn hL.2.1.1 hst (lv_room hr) hd hc) kk
theorem mw_callS {d mc ms n idx : Nat} {g : Fr} {As : List Value} {P : Pt3} (hd : decode fr.2.1 pc = .ok (.invokestatic idx, 3)) (hl : Cond.methodLink fr.1.cls idx g.1 ∈ TW) (hm : MFS g n) (hok : Ok d mc ms g X As S mi P) (hn : As.length = n) (hst : st0 = As.reverse ++ st) (hr : (st.map fun v => v.category).sum ≤ 8) (hR : d + 1 ≤ R.frames ∧ 40 + 40 * d ≤ R.locals) (hc : kc + mc ≤ R.cells ∧ sl + ms ≤ R.slots)
    (kk : ∀ r S' mi', P r S' mi' → MW X fr R (kc + mc) (sl + ms) (pc + 3) L (r.toList ++ st) S' mi' Q) : MW X fr R kc sl pc L st0 S mi Q := by
  intro p l e s m args below meth c H locs ls C hS hP hL
  obtain ⟨⟨m1, m2, m3, m4⟩, m5⟩ := hm
  have hts := C.2.2.2.2.1
  have cb : CallB R s args fr.1.cls idx g.1 g.2.1 g.2.2.1 g.2.2.2 (.code g.1 g.2.1 g.2.2.1 g.2.2.2 :: TW) (rmOf d mc ms) mc ms n := callB_of n hts (goodTW m1) rfl rfl rfl (hts _ m2) (hts _ hl) m3 ⟨hR.1, by show 8 + (g.2.2.1 + 11) + 40 * d ≤ R.locals; omega⟩
  exact W_call C hS hL (va_runS ⟨C.1, C.2.1, C.2.2.1, C.2.2.2.1, hts⟩ (hok l) ⟨cb, hts _ m5⟩ ⟨Pre3_blind, Pre3_at C hS hP⟩ rfl hn hL.2.1.1 hst (lv_room hr) hd hc) kk
theorem mw_callI {d mc ms n i idx : Nat} {g : Fr} {As : List Value} {P : Pt3} (hd : decode fr.2.1 pc = .ok (.invokespecial idx, 3)) (hl : Cond.methodLink fr.1.cls idx g.1 ∈ TW) (hm : MFI g n) (hok : Ok d mc ms g X (.ref (X.1 + i) :: As) S mi P) (hn : As.length = n) (hst : st0 = As.reverse ++ .ref (X.1 + i) :: st) (hr : (st.map fun v => v.category).sum ≤ 8) (hR : d + 1 ≤ R.frames ∧ 40 + 40 * d ≤ R.locals) (hc : kc + mc ≤ R.cells ∧ sl + ms ≤ R.slots)
    (kk : ∀ r S' mi', P r S' mi' → MW X fr R (kc + mc) (sl + ms) (pc + 3) L (r.toList ++ st) S' mi' Q) : MW X fr R kc sl pc L st0 S mi Q := by
  intro p l e s m args below meth c H locs ls C hS hP hL
  obtain ⟨⟨m1, m2, m3, m4⟩, m5, m6, m7⟩ := hm
  have hts := C.2.2.2.2.1
  have cb : CallB R s args fr.1.cls idx g.1 g.2.1 g.2.2.1 none (.code g.1 g.2.1 g.2.2.1 g.2.2.2 :: TW) (rmOf d mc ms) mc ms n := callB_of n hts (goodTW m1) (by rw [m7]) rfl rfl (hts _ m2) (hts _ hl) m3 ⟨hR.1, by show 8 + (g.2.2.1 + 11) + 40 * d ≤ R.locals; omega⟩
  exact W_call C hS hL (va_runI ⟨C.1, C.2.1, C.2.2.1, C.2.2.2.1, hts⟩ (hok l) ⟨cb, m6, hts _ m5⟩ ⟨Pre3_blind, Pre3_at C hS hP⟩ rfl hn hL.2.1.1 hst (lv_room hr) hd hc) kk
/-- of a nest mate's class -/
theorem mw_callSN {d mc ms n idx : Nat} {g : Fr} {host : String} {As : List Value} {P : Pt3} (hd : decode fr.2.1 pc = .ok (.invokestatic idx, 3)) (hl : Cond.methodLinkNest fr.1.cls idx g.1 host ∈ nestW) (hm : MFS g n) (hok : Ok d mc ms g X As S mi P) (hn : As.length = n) (hst : st0 = As.reverse ++ st) (hr : (st.map fun v => v.category).sum ≤ 8) (hR : d + 1 ≤ R.frames ∧ 40 + 40 * d ≤ R.locals) (hc : kc + mc ≤ R.cells ∧ sl + ms ≤ R.slots)
    (kk : ∀ r S' mi', P r S' mi' → MW X fr R (kc + mc) (sl + ms) (pc + 3) L (r.toList ++ st) S' mi' Q) : MW X fr R kc sl pc L st0 S mi Q := by
  intro p l e s m args below meth c H locs ls C hS hP hL
  obtain ⟨⟨m1, m2, m3, m4⟩, m5⟩ := hm
  have hts := C.2.2.2.2.1
  have cb := va_cnB (own := fr.1.cls) (index := idx) (host := host) (R := R) (rm := rmOf d mc ms) (mc := mc) (ms := ms) n hts (goodTW m1) rfl rfl rfl (C.2.2.2.2.2.2.2.2.2.2.1 _ hl) (hts _ m2) m3 ⟨hR.1, by show 8 + (g.2.2.1 + 11) + 40 * d ≤ R.locals; omega⟩
  exact W_call C hS hL (va_runSN ⟨C.1, C.2.1, C.2.2.1, C.2.2.2.1, hts⟩ (hok l) ⟨cb, hts _ m5, trivial⟩ ⟨Pre3_blind, Pre3_at C hS hP⟩ rfl hn hL.2.1.1 hst (lv_room hr) hd hc) kk
theorem mw_callIN {d mc ms n i idx : Nat} {g : Fr} {host : String} {As : List Value} {P : Pt3} (hd : decode fr.2.1 pc = .ok (.invokespecial idx, 3)) (hl : Cond.methodLinkNest fr.1.cls idx g.1 host ∈ nestW) (hm : MFI g n) (hok : Ok d mc ms g X (.ref (X.1 + i) :: As) S mi P) (hn : As.length = n) (hst : st0 = As.reverse ++ .ref (X.1 + i) :: st) (hr : (st.map fun v => v.category).sum ≤ 8) (hR : d + 1 ≤ R.frames ∧ 40 + 40 * d ≤ R.locals) (hc : kc + mc ≤ R.cells ∧ sl + ms ≤ R.slots)
    (kk : ∀ r S' mi', P r S' mi' → MW X fr R (kc + mc) (sl + ms) (pc + 3) L (r.toList ++ st) S' mi' Q) : MW X fr R kc sl pc L st0 S mi Q := by
  intro p l e s m args below meth c H locs ls C hS hP hL
  obtain ⟨⟨m1, m2, m3, m4⟩, m5, m6, m7⟩ := hm
  have hts := C.2.2.2.2.1
  have cb := va_cnB (own := fr.1.cls) (index := idx) (host := host) (R := R) (rm := rmOf d mc ms) (mc := mc) (ms := ms) (y := g.1) (bytes := g.2.1) (maxL := g.2.2.1) (ret := none) (ws := .code g.1 g.2.1 g.2.2.1 g.2.2.2 :: TW) n hts (goodTW m1) (by rw [m7]) rfl rfl (C.2.2.2.2.2.2.2.2.2.2.1 _ hl) (hts _ m2) m3 ⟨hR.1, by show 8 + (g.2.2.1 + 11) + 40 * d ≤ R.locals; omega⟩
  exact W_call C hS hL (va_runIN ⟨C.1, C.2.1, C.2.2.1, C.2.2.2.1, hts⟩ (hok l) ⟨cb, m6, hts _ m5⟩ ⟨Pre3_blind, Pre3_at C hS hP⟩ rfl hn hL.2.1.1 hst (lv_room hr) hd hc) kk
theorem mw_objI {idx i : Nat} (hd : decode fr.2.1 pc = .ok (.invokespecial idx, 3)) (hl : Cond.methodLink fr.1.cls idx Lib.objectInit ∈ TW) (hr : (st.map fun v => v.category).sum ≤ 8) (hR : 1 ≤ R.frames ∧ 40 ≤ R.locals) (kk : MW X fr R kc sl (pc + 3) L st S mi Q) : MW X fr R kc sl pc L (.ref i :: st) S mi Q :=
  fun p l e s m args below meth c H locs ls C hS hP hL => W.objInit C.1 C.2.1 C.2.2.2.1 (C.2.2.2.2.1 _ hl) (C.2.2.2.2.1 _ obj_ok.1) (C.2.2.2.2.1 _ obj_ok.2) rfl (by rw [C.2.2.1]; exact hL.2.1.1) rfl hd hR.1 (by have := lv_room (m := m) (pc := pc) (ls := ls) (rest := .ref i :: st) hr; omega) (kk p l e s m args below meth c H locs ls C hS hP hL)
theorem mw_mmax {idx : Nat} {x y : Int32} (hd : decode fr.2.1 pc = .ok (.invokestatic idx, 3)) (hl : Cond.methodLink fr.1.cls idx Lib.Math.max.name ∈ TW) (hr : (st.map fun v => v.category).sum ≤ 8) (hR : 1 ≤ R.frames ∧ 40 ≤ R.locals) (hc : kc ≤ R.cells ∧ sl ≤ R.slots) (kk : MW X fr R kc sl (pc + 3) L (.int (if x < y then y else x) :: st) S mi Q) : MW X fr R kc sl pc L (.int y :: .int x :: st) S mi Q :=
  fun p l e s m args below meth c H locs ls C hS hP hL => va_mmax C.1 C.2.1 (by rw [C.2.2.1]; exact hL.2.1.1.symm) C.2.2.2.1 (C.2.2.2.2.1 _ hl) (C.2.2.2.2.1 _ math_max.1) (C.2.2.2.2.1 _ math_ini) (C.2.2.2.2.1 _ math_max.2) hR.1 (by omega) hc.1 hc.2 hd (kk p l e s m args below meth c H locs ls C hS hP hL)
theorem mw_mmin {idx : Nat} {x y : Int32} (hd : decode fr.2.1 pc = .ok (.invokestatic idx, 3)) (hl : Cond.methodLink fr.1.cls idx Lib.Math.min.name ∈ TW) (hr : (st.map fun v => v.category).sum ≤ 8) (hR : 1 ≤ R.frames ∧ 40 ≤ R.locals) (hc : kc ≤ R.cells ∧ sl ≤ R.slots) (kk : MW X fr R kc sl (pc + 3) L (.int (if y < x then y else x) :: st) S mi Q) : MW X fr R kc sl pc L (.int y :: .int x :: st) S mi Q :=
  fun p l e s m args below meth c H locs ls C hS hP hL => va_mmin C.1 C.2.1 (by rw [C.2.2.1]; exact hL.2.1.1.symm) C.2.2.2.1 (C.2.2.2.2.1 _ hl) (C.2.2.2.2.1 _ math_min.1) (C.2.2.2.2.1 _ math_ini) (C.2.2.2.2.1 _ math_min.2) hR.1 (by omega) hc.1 hc.2 hd (kk p l e s m args below meth c H locs ls C hS hP hL)
theorem mw_mabs {idx : Nat} {x : Int32} (hd : decode fr.2.1 pc = .ok (.invokestatic idx, 3)) (hl : Cond.methodLink fr.1.cls idx Lib.Math.abs.name ∈ TW) (hr : (st.map fun v => v.category).sum ≤ 8) (hR : 1 ≤ R.frames ∧ 40 ≤ R.locals) (hc : kc ≤ R.cells ∧ sl ≤ R.slots) (kk : MW X fr R kc sl (pc + 3) L (.int (if 0 ≤ x then x else 0 - x) :: st) S mi Q) : MW X fr R kc sl pc L (.int x :: st) S mi Q :=
  fun p l e s m args below meth c H locs ls C hS hP hL => va_mabs C.1 C.2.1 (by rw [C.2.2.1]; exact hL.2.1.1.symm) C.2.2.2.1 (C.2.2.2.2.1 _ hl) (C.2.2.2.2.1 _ math_abs.1) (C.2.2.2.2.1 _ math_ini) (C.2.2.2.2.1 _ math_abs.2) hR.1 (by omega) hc.1 hc.2 hd (kk p l e s m args below meth c H locs ls C hS hP hL)
theorem mw_getKA {idx : Nat} (hd : decode fr.2.1 pc = .ok (.getstatic idx, 3)) (hl : Cond.fieldLinkNest fr.1.cls idx RX6 "KIND_ABOVE" "[I" RX6 ∈ nestW) (kk : MW X fr R kc sl (pc + 3) L (.ref X.2.2.2.1 :: st) S mi Q) : MW X fr R kc sl pc L st S mi Q :=
  fun p l e s m args below meth c H locs ls C hS hP hL => va_getsN C.1 C.2.1 C.2.2.2.2.2.2.2.2.2.2.2.2.1 hS C.2.2.2.1 (va_Nw.use rfl (C.2.2.2.2.2.2.2.2.2.2.1 _ hl)) (fun x h => h) hd (kk p l e s m args below meth c H locs ls C hS hP hL)
theorem mw_kald {j : Int32} {v : Value} (hd : decode fr.2.1 pc = .ok (.iaload, 1)) (hin : vp_in j 6) (hv : kaF j.toNatClampNeg = v) (kk : MW X fr R kc sl (pc + 1) L (v :: st) S mi Q) : MW X fr R kc sl pc L (.int j :: .ref X.2.2.2.1 :: st) S mi Q :=
  fun p l e s m args below meth c H locs ls C hS hP hL => va_ti C.1 C.2.1 C.2.2.2.2.2.2.2.2.2.2.2.2.2.1 hS hin hv hd (kk p l e s m args below meth c H locs ls C hS hP hL)
theorem mw_anew {idx ci c0 t0 N : Nat} {n : Int32} {q : vw_C} (hd : decode fr.2.1 pc = .ok (.anewarray idx, 3)) (hq : vwCl[ci]? = some q) (hty : aTy c0 ci t0) (hcl : Cond.classLink fr.1.cls idx q.1 ∈ TW) (hao : q.1 ∈ aoC) (hn : ¬ n < 0) (hN : n.toNatClampNeg = N) (hb : N * 4 ≤ 536870912) (hc : kc + 1 ≤ R.cells) (hs : sl + N ≤ R.slots) (kk : MW X fr R (kc + 1) (sl + N) (pc + 3) L (.ref (X.1 + S.1) :: st) (nwS S c0 N) (nwM S mi) Q) : MW X fr R kc sl pc L (.int n :: st) S mi Q := by
  intro p l e s m args below meth c H locs ls C hS hP hL
  obtain ⟨r, hr1, hr2, hr3, hr4⟩ := aTy_ok hty X.2.2.1
  have hrq : r = q := Option.some.inj (hr1.symm.trans hq)
  subst hrq
  subst hN
  have hK := C.2.2.2.2.2.2.2.2.2.1
  refine W.anew C.1 C.2.1 C.2.2.2.1 (C.2.2.2.2.1 _ hcl) (va_AO.use (C.2.2.2.2.2.2.2.2.2.2.2.1 _ hao)) rfl hd rfl hn hb hc hs fun cA kA comp f1 f2 f3 f4 => ?_
  obtain ⟨kA', comp', k1, k2, k3, k4⟩ := (hK.2 t0 _ hr2).2
  have hcA : cA = X.2.2.1 (c0 - 8) := Option.some.inj (f1.symm.trans k4)
  generalize hH1 : H.push ({ cls := cA, slots := Array.replicate n.toNatClampNeg .null, vm := .none } : Cell) = H1
  have z1 : H1.size = H.size + 1 := by rw [← hH1, Array.size_push]
  have e1 : H1[H.size]? = some (arrV cA n.toNatClampNeg (fun _ => .null)) := by rw [← hH1, Array.getElem?_push_size, ← arrV_new]
  have o1 : ∀ q : Nat, q < H.size → H1[q]? = H[q]? := fun q hq => by rw [← hH1, Array.getElem?_push, if_neg (Nat.ne_of_lt hq)]
  have hsz : H.size = X.1 + S.1 := hP.1
  rw [hsz] at e1
  refine (show ∀ h, h = H.size → W p l e R s m args below meth c H1 locs (kc + 1) (sl + n.toNatClampNeg) (Q below args s) (F0 m (pc + 3) ls (.ref h :: st)) from fun h hh => ?_) H.size rfl
  rw [hh, hsz]
  refine kk p l e s m args below meth c H1 locs ls C (va_S_new hS z1 o1) (Wp_new hP z1 o1 ?_) hL
  rw [cell_ref (c := c0) (z := n.toNatClampNeg) ⟨by simp [nwS], by simp [nwS]⟩ hr3]
  show H1[X.1 + S.1]? = some (vp_cell _ _)
  rw [e1, vp_cell_q, hcA]
  congr 2
  funext q
  simp [nwS, va_rf]
/-- System.arraycopy over int[] -/
def m_cpy (mi : Mem) (a b sp dp n : Nat) : Mem := fun i k => if i = b ∧ dp ≤ k ∧ k < dp + n then mi a (sp + (k - dp)) else mi i k
theorem mw_acopy {idx a b za zb : Nat} {sp dp n : Int32} (hd : decode fr.2.1 pc = .ok (.invokestatic idx, 3)) (hl : Cond.methodLink fr.1.cls idx arraycopyName ∈ TW) (ha : Kd S a 8 za) (hb : Kd S b 8 zb) (h1 : ¬ sp < 0) (h2 : ¬ dp < 0) (h3 : ¬ n < 0) (h4 : sp.toNatClampNeg + n.toNatClampNeg ≤ za) (h5 : dp.toNatClampNeg + n.toNatClampNeg ≤ zb) (hr : (st.map fun v => v.category).sum ≤ 8) (hR : 1 ≤ R.frames ∧ 40 ≤ R.locals)
    (kk : MW X fr R kc sl (pc + 3) L st S (m_cpy mi a b sp.toNatClampNeg dp.toNatClampNeg n.toNatClampNeg) Q) : MW X fr R kc sl pc L (.int n :: .int dp :: .ref (X.1 + b) :: .int sp :: .ref (X.1 + a) :: st) S mi Q := by
  intro p l e s m args below meth c H locs ls C hS hP hL
  have nn : ∀ z : Int32, ¬ z < 0 → z.toInt = (z.toNatClampNeg : Int) := by
    intro z hz
    have hz0 : (0 : Int) ≤ z.toInt := by
      have := Int32.not_lt.mp hz
      simpa using Int32.le_iff_toInt_le.mp this
    show z.toInt = ((z.toInt.toNat : Nat) : Int)
    omega
  intro T hT Y
  have hca : H[X.1 + a]? = some (vp_cell (X.2.2.1 0) (za, .inl (mi a))) := by
    have := hP.2 a _ (ws_at ha.1)
    rw [cell_int ha (by decide) (by decide)] at this
    exact this
  have hcb : H[X.1 + b]? = some (vp_cell (X.2.2.1 0) (zb, .inl (mi b))) := by
    have := hP.2 b _ (ws_at hb.1)
    rw [cell_int hb (by decide) (by decide)] at this
    exact this
  have hK := C.2.2.2.2.2.2.2.2.2.1
  have hts := C.2.2.2.2.1
  obtain ⟨-, k0, hk0, cm0, hkk0⟩ := (hK.2 0 _ rfl).1 za (fun j => .int (mi a j))
  obtain ⟨-, k1, hk1, cm1, hkk1⟩ := (hK.2 0 _ rfl).1 zb (fun j => .int (mi b j))
  obtain ⟨vm', Y', step⟩ := Y.arraycopy C.1 C.2.2.2.1 (hts _ hl) (hts _ acopy_ok.1) (hts _ acopy_ok.2.1) (hts _ acopy_ok.2.2) (src := X.1 + a) (dst := X.1 + b) (cs := vp_cell (X.2.2.1 0) (za, .inl (mi a))) (cd := vp_cell (X.2.2.1 0) (zb, .inl (mi b))) (srcPos := sp) (destPos := dp) (n := n) (by rw [hT]; exact hca) (by rw [hT]; exact hcb)
    (fun _ h => by cases h) (fun _ h => by cases h) (fun h => by cases h) (fun h => by cases h) hk0 hk1 hkk0 hkk1 (by simp [refKind]) h1 h2 h3
    (by rw [nn sp h1, nn n h3]; show ¬ _ > ((arrV (X.2.2.1 0) za (fun j => .int (mi a j))).slots.size : Int); rw [arrV_size]; omega)
    (by rw [nn dp h2, nn n h3]; show ¬ _ > ((arrV (X.2.2.1 0) zb (fun j => .int (mi b j))).slots.size : Int); rw [arrV_size]; omega)
    (fun vm₁ _ i hi => by
      have e : (vp_cell (X.2.2.1 0) (za, .inl (mi a))).slots.getD (sp.toNatClampNeg + i) .null = .int (mi a (sp.toNatClampNeg + i)) := by
        show (arrV (X.2.2.1 0) za (fun j => .int (mi a j))).slots.getD _ _ = _
        rw [Array.getD_eq_getD_getElem?, arrV_read _ _ (by omega)]
        rfl
      refine ⟨?_, ?_⟩
      · rw [e]; rfl
      · rw [e]; exact trivial)
    (g := F0 m pc ls (.int n :: .int dp :: .ref (X.1 + b) :: .int sp :: .ref (X.1 + a) :: st)) rfl (by rw [C.2.2.1]; exact hL.2.1.1) (rest := st) rfl (by rw [C.2.1]; exact hd) hR.1 (by
      show 2 * 0 + _ + (nativeFrameWords "java/lang/System" "arraycopy" 5 + 11) ≤ _
      have : nativeFrameWords "java/lang/System" "arraycopy" 5 + 11 ≤ 32 := by decide +kernel
      omega)
  have ecp : copied (vp_cell (X.2.2.1 0) (za, .inl (mi a))) (vp_cell (X.2.2.1 0) (zb, .inl (mi b))) sp dp n = vp_cell (X.2.2.1 0) (zb, .inl (va_cpy (mi a) (mi b) sp.toNatClampNeg dp.toNatClampNeg n.toNatClampNeg)) := va_copied (fun z => .int z) (X.2.2.1 0) (X.2.2.1 0) (mi a) (mi b) h4
  rw [ecp] at Y' step
  have hlt : X.1 + b < H.size := (Array.getElem?_eq_some_iff.mp hcb).1
  generalize hcell : vp_cell (X.2.2.1 0) (zb, .inl (va_cpy (mi a) (mi b) sp.toNatClampNeg dp.toNatClampNeg n.toNatClampNeg)) = cell at Y' step
  have hheap : ((T.setVm vm').setCell (X.1 + b) cell).heap = H.setIfInBounds (X.1 + b) cell := by rw [← hT]; rfl
  have oq : ∀ q : Nat, q ≠ X.1 + b → (H.setIfInBounds (X.1 + b) cell)[q]? = H[q]? := fun q hq => by simp [Array.getElem?_setIfInBounds, Ne.symm hq]
  have hS1 : ∀ Lc : List Loc, (∀ q ∈ Lc, q.base = X.1 + b) → va_S (bA X) s.heap (H.setIfInBounds (X.1 + b) cell) (locs ++ Lc) := fun Lc hLc => ⟨by simp; exact hS.1, fun q g1 g2 => by
      rw [oq q (fun e => g2 (by rw [e]; exact Nat.le_add_right _ _))]
      exact hS.2.1 q g1 g2, fun q hq => by
      rcases List.mem_append.mp hq with h | h
      · exact hS.2.2 q h
      · show X.1 ≤ q.base
        rw [hLc q h]; exact Nat.le_add_right _ _⟩
  have hW1 : Wp X S (m_cpy mi a b sp.toNatClampNeg dp.toNatClampNeg n.toNatClampNeg) (H.setIfInBounds (X.1 + b) cell) := by
    refine Wp_put (i := b) hP rfl (fun j hj => cell_eq rfl (by funext q; simp [m_cpy, hj]) rfl) (by simp) oq ?_
    rw [cell_int hb (by decide) (by decide)]
    show (H.setIfInBounds (X.1 + b) cell)[X.1 + b]? = some (vp_cell _ _)
    rw [Array.getElem?_setIfInBounds]
    simp only [hlt, if_true, ← hcell]
    congr 4
    funext q
    simp [va_cpy, m_cpy]
  obtain ⟨t, a1, b1⟩ := kk p l e s m args below meth c _ _ ls C (hS1 _ (fun q hq => by
    obtain ⟨z, -, hz⟩ := List.mem_map.mp hq
    rw [← hz])) hW1 hL _ hheap Y'
  exact ⟨t, step t a1, b1⟩
end MWC
