/-! the law, from its entry -/
def lwQ (X : Xb) : Qt := fun below args s t => X.1 = s.heap.size → lw_Z below args s t
/-- the law's end, whatever it was called with -/
theorem lw_retA {p : Program} {l : Launch} {e : Env} {s : State} {m : MethodId} {below : List Frame} {meth : Method} {c : Code} {args : Array Value} (hx : p.tables.exec = Jvm.exec) (hb : c.code = code) (hr : meth.sig.returnType = ret) (hlocks : meth.locks = false) {pc : Nat} {H : Heap} {ls : Array Slot} (hdg : decode code pc = .ok (.ireturn, 1)) : W p l e room_1 s m args below meth c H [] 600000 7302250 (lw_Z below args s) (F0 m pc ls [.int 1]) := by
  intro T hT X
  obtain ⟨fs, hret, hrun, hended, hW, hframe⟩ := X.leave (v := some (.int 1)) (hlocks := hlocks) (fun h => by rw [hr] at h; cases h)
  have hmeth' : T.vm.method? m = some meth := X.method'
  refine ⟨T.setFrames fs, ?_, .returned (some (.int 1)), hrun, hended, rfl, ⟨_, rfl⟩, hW, hframe⟩
  jvm_step X.here [X.here.top, hx, hb, hdg, hmeth', hr, ret, narrow_b1]
  (try refine ⟨rfl, ?_⟩); (try refine ⟨rfl, ?_⟩)
  first | (intro acts; rw [hret _ acts rfl rfl rfl]) | rw [hret _ _ rfl rfl rfl]
  exact Steps.refl _
theorem lw_end {X : Xb} {nm : String} {x : Nat} (kc sl : Nat) (S : Sg) (m : Mem) (i : Nat) (h1 : kc ≤ 2000) (h2 : sl ≤ 100000) : MW X (fL nm) room_1 kc sl 1545 (lwL X x i) [] S m (lwQ X) := by
  refine mw_iconst (v := 1) dL_1545 (by decide) ?_
  intro p l e s mm args below meth c H locs ls C hS hP hL
  by_cases hb : X.1 = s.heap.size
  · refine va_forget (fun q hq => by rw [← hb]; exact hS.2.2 q hq) ?_
    refine W.widen (k := 600000) (n := 7302250) (by omega) (by omega) ?_
    intro T hT Y
    obtain ⟨t, a1, b1⟩ := lw_retA (l := l) (e := e) C.1 C.2.1 C.2.2.2.2.2.1 C.2.2.2.2.2.2.1 dL_1546 T hT Y
    exact ⟨t, a1, fun _ => b1⟩
  · intro T hT Y
    exact ⟨_, Steps.refl _, fun h => absurd h hb⟩
def S_0 : Sg := (0, fun _ => (0, 0), fun _ _ => none)
def m_0 : Mem := fun _ _ => 0
theorem kd_00 : Kd (nwS S_0 6 0) 0 6 0 := ⟨Nat.lt_succ_self 0, rfl⟩
theorem lw_begin {X : Xb} {nm : String} (hL : sL X ≤ 3072) : MW X (fL nm) room_1 0 0 0 [some (.ref (sA X)), none, none, none] [] S_0 m_0 (lwQ X) := by
  refine mw_new (ci := 6) dL_0 rfl cl_L_7 (Nat.le_of_ble_eq_true rfl) (Nat.le_of_ble_eq_true rfl) ?_
  refine mw_dup dL_3 rfl ?_
  refine mw_callI (g := fX6_init) (i := 0) (As := []) (st := [.ref (X.1 + 0)]) dL_4 ml_L_9 mfX6_init (ok_X6_init (x := 0) kd_00 rfl rfl) rfl rfl (Nat.le_of_ble_eq_true rfl) ⟨Nat.le_of_ble_eq_true rfl, Nat.le_of_ble_eq_true rfl⟩ ⟨Nat.le_of_ble_eq_true rfl, Nat.le_of_ble_eq_true rfl⟩ (fun r S1 m1 hp => ?_)
  obtain ⟨rfl, hA⟩ := hp
  have e1 : S1.1 = 0 + 87 := hA.1
  refine mw_astN 1 dL_7 rfl (Nat.le_of_ble_eq_true rfl) ?_
  refine mw_new (ci := 7) dL_8 rfl cl_L_10 (Nat.le_of_ble_eq_true rfl) (Nat.le_of_ble_eq_true rfl) ?_
  refine mw_dup dL_11 rfl ?_
  rw [e1]
  have k7 : Kd (nwS S1 7 0) (0 + 87) 7 0 := by rw [← e1]; exact Kd_nw0 S1 7 0
  refine mw_callI (g := fX7_init) (i := 0 + 87) (As := []) (st := [.ref (X.1 + (0 + 87))]) dL_12 ml_L_12 mfX7_init (ok_X7_init k7 (by show S1.1 + 1 = _; rw [e1])) rfl rfl (Nat.le_of_ble_eq_true rfl) ⟨Nat.le_of_ble_eq_true rfl, Nat.le_of_ble_eq_true rfl⟩ ⟨Nat.le_of_ble_eq_true rfl, Nat.le_of_ble_eq_true rfl⟩ (fun r S3 m3 hp => ?_)
  obtain ⟨rfl, hM⟩ := hp
  refine mw_astN 2 dL_15 rfl (Nat.le_of_ble_eq_true rfl) ?_
  refine mw_iconst (v := nI 0) dL_16 (by decide) ?_
  refine mw_istN 3 dL_17 rfl (Nat.le_of_ble_eq_true rfl) ?_
  exact MW.widen (Nat.le_of_ble_eq_true rfl) (Nat.le_of_ble_eq_true rfl) (lw_loop (x := 0) hL lw_end 520 0 S3 m3 (by omega) (by omega) (inv_ini hA hM))
