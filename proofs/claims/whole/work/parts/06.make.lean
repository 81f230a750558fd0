/-! writes to rows, new cells, calls -/
def nwS (S : Sg) (c z : Nat) : Sg := (S.1 + 1, fun j => if j = S.1 then (c, z) else S.2.1 j, fun a k => if a = S.1 then none else S.2.2 a k)
def nwM (S : Sg) (mi : Mem) : Mem := fun a k => if a = S.1 then 0 else mi a k
section MWM
variable {X : Xb} {fr : Fr} {R : Room} {kc sl pc : Nat} {L : List (Option Value)} {st : List Value} {S : Sg} {mi : Mem} {Q : Qt}
theorem cell_upd {X : Xb} {S : Sg} {mi : Mem} {i c z j : Nat} {v : Int32} {H1 : Heap} (hk : Kd S i c z) (hc : ¬ c < 8) (hc2 : c < 11) (e : H1[X.1 + i]? = some ((vp_cell (X.2.2.1 (c - 8)) (z, .inl (mi i))).setSlot j (.int v))) : va_at X.2.1 vwCl (X.1 + i, cellE X S (m_up mi i j v) i) H1 := by
  rw [cell_int hk hc hc2]
  show H1[X.1 + i]? = some (vp_cell _ _)
  rw [e, vp_cell_i, vp_cell_i, arrV_store]
  congr 2
  funext q
  by_cases hq : q = j
  · subst hq; simp [updV, m_up]
  · simp [updV, m_up, hq]
theorem mw_iast {i z : Nat} {j v : Int32} (hd : decode fr.2.1 pc = .ok (.iastore, 1)) (hk : Kd S i 8 z) (hin : vp_in j z) (kk : MW X fr R kc sl (pc + 1) L st S (m_up mi i j.toNatClampNeg v) Q) : MW X fr R kc sl pc L (.int v :: .int j :: .ref (X.1 + i) :: st) S mi Q := by
  intro p l e s m args below meth c H locs ls C hS hP hL
  have hat := hP.2 i _ (ws_at hk.1)
  rw [cell_int hk (by decide) (by decide)] at hat
  have hK := C.2.2.2.2.2.2.2.2.2.1
  refine W.iast C.1 C.2.1 hat ((hK.2 0 _ rfl).1 z (fun j => .int (mi i j))) (fun q => by cases q) (by show ¬ (j < 0 ∨ (arrV _ _ _).slots.size ≤ _); rw [arrV_size]; exact hin) rfl rfl hd fun H1 e1 e2 e3 => ?_
  exact kk p l e s m args below meth c H1 _ ls C (hS.put e2 e3 (Nat.le_add_right _ _)) (Wp_put (i := i) hP rfl (fun j hj => cell_eq rfl (m_up_ne hj) rfl) e2 e3 (cell_upd hk (by decide) (by decide) e1)) hL
theorem mw_zast {i z : Nat} {j v : Int32} (hd : decode fr.2.1 pc = .ok (.bastore, 1)) (hk : Kd S i 9 z) (hin : vp_in j z) (hv : narrow .boolean (.int v) = .int v) (kk : MW X fr R kc sl (pc + 1) L st S (m_up mi i j.toNatClampNeg v) Q) : MW X fr R kc sl pc L (.int v :: .int j :: .ref (X.1 + i) :: st) S mi Q := by
  intro p l e s m args below meth c H locs ls C hS hP hL
  have hat := hP.2 i _ (ws_at hk.1)
  rw [cell_int hk (by decide) (by decide)] at hat
  have hK := C.2.2.2.2.2.2.2.2.2.1
  refine W.zast C.1 C.2.1 hat ((hK.2 1 _ rfl).1 z (fun j => .int (mi i j))) (fun q => by cases q) (by show ¬ (j < 0 ∨ (arrV _ _ _).slots.size ≤ _); rw [arrV_size]; exact hin) rfl rfl hd fun H1 e1 e2 e3 => ?_
  rw [hv] at e1
  exact kk p l e s m args below meth c H1 _ ls C (hS.put e2 e3 (Nat.le_add_right _ _)) (Wp_put (i := i) hP rfl (fun j hj => cell_eq rfl (m_up_ne hj) rfl) e2 e3 (cell_upd hk (by decide) (by decide) e1)) hL
theorem mw_cast {i z : Nat} {j v : Int32} (hd : decode fr.2.1 pc = .ok (.castore, 1)) (hk : Kd S i 10 z) (hin : vp_in j z) (hv : narrow .char (.int v) = .int v) (kk : MW X fr R kc sl (pc + 1) L st S (m_up mi i j.toNatClampNeg v) Q) : MW X fr R kc sl pc L (.int v :: .int j :: .ref (X.1 + i) :: st) S mi Q := by
  intro p l e s m args below meth c H locs ls C hS hP hL
  have hat := hP.2 i _ (ws_at hk.1)
  rw [cell_int hk (by decide) (by decide)] at hat
  have hK := C.2.2.2.2.2.2.2.2.2.1
  refine W.cast C.1 C.2.1 hat ((hK.2 2 _ rfl).1 z (fun j => .int (mi i j))) (fun q => by cases q) (by show ¬ (j < 0 ∨ (arrV _ _ _).slots.size ≤ _); rw [arrV_size]; exact hin) rfl rfl hd fun H1 e1 e2 e3 => ?_
  rw [hv] at e1
  exact kk p l e s m args below meth c H1 _ ls C (hS.put e2 e3 (Nat.le_add_right _ _)) (Wp_put (i := i) hP rfl (fun j hj => cell_eq rfl (m_up_ne hj) rfl) e2 e3 (cell_upd hk (by decide) (by decide) e1)) hL
/-- a reference is put into a row of its class -/
def aTy (c0 ci t0 : Nat) : Prop := (c0 = 11 ∧ ci = 0 ∧ t0 = 3) ∨ (c0 = 12 ∧ ci = 1 ∧ t0 = 4) ∨ (c0 = 13 ∧ ci = 2 ∧ t0 = 5) ∨ (c0 = 14 ∧ ci = 4 ∧ t0 = 6)
theorem aTy_ok {c0 ci t0 : Nat} (h : aTy c0 ci t0) (dA : Nat → ClassId) : ∃ r : vw_C, vwCl[ci]? = some r ∧ (tysOf dA)[t0]? = some (dA (c0 - 8), .object r.1) ∧ ¬ c0 < 11 ∧ ci < 8 := by
  rcases h with ⟨rfl, rfl, rfl⟩ | ⟨rfl, rfl, rfl⟩ | ⟨rfl, rfl, rfl⟩ | ⟨rfl, rfl, rfl⟩
  · exact ⟨_, rfl, rfl, by decide, by decide⟩
  · exact ⟨_, rfl, rfl, by decide, by decide⟩
  · exact ⟨_, rfl, rfl, by decide, by decide⟩
  · exact ⟨_, rfl, rfl, by decide, by decide⟩
theorem mw_aast {i c0 z a ci z2 t0 : Nat} {j : Int32} (hd : decode fr.2.1 pc = .ok (.aastore, 1)) (hk : Kd S i c0 z) (ha : Kd S a ci z2) (hty : aTy c0 ci t0) (hin : vp_in j z) (kk : MW X fr R kc sl (pc + 1) L st (S.1, S.2.1, r_up S.2.2 i j.toNatClampNeg (some a)) mi Q) : MW X fr R kc sl pc L (.ref (X.1 + a) :: .int j :: .ref (X.1 + i) :: st) S mi Q := by
  intro p l e s m args below meth c H locs ls C hS hP hL
  obtain ⟨r, hr1, hr2, hr3, hr4⟩ := aTy_ok hty X.2.2.1
  have hat := hP.2 i _ (ws_at hk.1)
  rw [cell_ref hk hr3] at hat
  have hav := hP.2 a _ (ws_at ha.1)
  rw [cell_obj ha hr4] at hav
  obtain ⟨r', hr', cellV, g1, g2, g3, -⟩ := hav
  have hK := C.2.2.2.2.2.2.2.2.2.1
  have hcls := (hK.1 ci r hr1).2
  obtain ⟨kA, comp, k1, k2, k3, -⟩ := (hK.2 t0 _ hr2).2
  have hcomp : comp = X.2.1.1 ci := Option.some.inj (k3.symm.trans hcls.1)
  subst hcomp
  obtain ⟨kC, hkC, -⟩ := hcls.2
  have hlt : j.toNatClampNeg < z := Nat.not_le.mp fun q => hin (Or.inr q)
  have h0 : ¬ j < 0 := fun q => hin (Or.inl q)
  refine W.aast C.1 C.2.1 hat (fun q h => by cases h) (fun h => by cases h) k1 k2 rfl hkC ⟨h0, by show _ < (arrV _ _ _).slots.size; rw [arrV_size]; exact hlt⟩ g1 (fun q h => by rw [g3] at h; cases h) (by rw [g2]; exact hkC) (by rw [g2]; exact va_assign hcls) rfl rfl hd fun H1 e1 e2 e3 => ?_
  refine kk p l e s m args below meth c H1 _ ls C (hS.put e2 e3 (Nat.le_add_right _ _)) (Wp_put (i := i) hP rfl (fun j hj => cell_eq rfl rfl (r_up_ne hj)) e2 e3 ?_) hL
  rw [cell_ref (S := (S.1, S.2.1, r_up S.2.2 i j.toNatClampNeg (some a))) (z := z) hk hr3]
  show H1[X.1 + i]? = some (vp_cell _ _)
  rw [e1, vp_cell_q, vp_cell_q, arrV_store]
  congr 2
  funext q
  by_cases hq : q = j.toNatClampNeg
  · subst hq; simp [updV, r_up, va_rf]
  · simp [updV, r_up, hq]
theorem Wp_new {X : Xb} {S : Sg} {mi : Mem} {c z : Nat} {H H1 : Heap} (hP : Wp X S mi H) (z1 : H1.size = H.size + 1) (o1 : ∀ q : Nat, q < H.size → H1[q]? = H[q]?) (hnew : va_at X.2.1 vwCl (X.1 + S.1, cellE X (nwS S c z) (nwM S mi) S.1) H1) : Wp X (nwS S c z) (nwM S mi) H1 := by
  refine ⟨by rw [z1, hP.1]; rfl, fun k q hk => ?_⟩
  by_cases hl : k < S.1 + 1
  · rw [ws_at hl] at hk
    cases hk
    by_cases hki : k = S.1
    · subst hki; exact hnew
    · have hks : k < S.1 := by omega
      rw [cell_eq (S := S) (mi := mi) (by simp [nwS, hki]) (by funext b; simp [nwM, hki]) (by funext b; simp [nwS, hki])]
      exact (hP.2 k _ (ws_at hks)).kept (o1 _ (by show X.1 + k < H.size; rw [hP.1]; omega))
  · rw [List.getElem?_eq_none (by simp [wsOf, nwS]; omega)] at hk; cases hk
theorem va_S_new {A : Nat → Prop} {H0 H H1 : Heap} {locs : List Loc} (hS : va_S A H0 H locs) (z1 : H1.size = H.size + 1) (o1 : ∀ q : Nat, q < H.size → H1[q]? = H[q]?) : va_S A H0 H1 locs :=
  ⟨Nat.le_trans hS.1 (by omega), fun x h1 h2 => (o1 x (Nat.lt_of_lt_of_le h1 hS.1)).trans (hS.2.1 x h1 h2), hS.2.2⟩
theorem mw_new {idx ci : Nat} {q : vw_C} (hd : decode fr.2.1 pc = .ok (.new idx, 3)) (hq : vwCl[ci]? = some q) (hcl : Cond.classLink fr.1.cls idx q.1 ∈ TW) (hc : kc + 1 ≤ R.cells) (hs : sl + nF ci ≤ R.slots) (kk : MW X fr R (kc + 1) (sl + nF ci) (pc + 3) L (.ref (X.1 + S.1) :: st) (nwS S ci 0) (nwM S mi) Q) : MW X fr R kc sl pc L st S mi Q := by
  intro p l e s m args below meth c H locs ls C hS hP hL
  obtain ⟨g1, g2, g3, ⟨ty0, t1, t2, t3⟩, g5, g6⟩ := ci_all ci q hq
  have hts := C.2.2.2.2.1
  have hKn := C.2.2.2.2.2.2.2.2.2.1.1 ci _ hq
  rw [g3] at hs kk
  refine W.newcK C.1 C.2.1 C.2.2.2.1 (hts _ hcl) (hts _ g5) (hts _ g6) rfl hd hc hs hKn.2.1 rfl fun H1 kC hkC e1 z1 o1 => ?_
  have hsz : H.size = X.1 + S.1 := hP.1
  refine (show ∀ h, h = H.size → W p l e R s m args below meth c H1 locs (kc + 1) (sl + q.2.2) (Q below args s) (F0 m (pc + 3) ls (.ref h :: st)) from fun h hh => ?_) H.size rfl
  rw [hh, hsz]
  refine kk p l e s m args below meth c H1 locs ls C (va_S_new hS z1 o1) (Wp_new hP z1 o1 ?_) hL
  rw [cell_obj (c := ci) (z := 0) ⟨by simp [nwS], by simp [nwS]⟩ g2]
  refine ⟨q, hq, (show t_OB (X.1 + S.1) _ _ _ H1 _ from ?_)⟩
  rw [← hsz]
  refine (u_born ty0 hts g1 hKn hkC e1 t1).to (fun j hj => ?_)
  rw [t3 j hj]
  unfold vp_V
  rw [List.getD_eq_getElem?_getD, flds_at (by rw [g3]; exact hj)]
  simp only [nwM, nwS, if_true, Option.map_none, Option.getD_some]
  rfl
theorem mw_newi {n : Int32} {N : Nat} (hd : decode fr.2.1 pc = .ok (.newarray .int, 2)) (hw : Cond.arrayClass .int ∈ TW) (hn : ¬ n < 0) (hN : n.toNatClampNeg = N) (hb : N * 4 ≤ 536870912) (hc : kc + 1 ≤ R.cells) (hs : sl + N ≤ R.slots) (kk : MW X fr R (kc + 1) (sl + N) (pc + 2) L (.ref (X.1 + S.1) :: st) (nwS S 8 N) (nwM S mi) Q) : MW X fr R kc sl pc L (.int n :: st) S mi Q := by
  intro p l e s m args below meth c H locs ls C hS hP hL
  refine va_newaK (atype := .int) C.1 C.2.1 (C.2.2.2.2.1 _ hw) rfl hd rfl hn hN hb hc hs hP.1 fun H1 cA e1 z1 o1 hAr hNm => ?_
  have hcA : cA = X.2.2.1 0 := Option.some.inj (hNm.symm.trans (C.2.2.2.2.2.2.2.2.2.1.2 0 _ rfl).2)
  subst hcA
  have z2 : H1.size = H.size + 1 := by rw [z1, hP.1]
  have o2 : ∀ q : Nat, q < H.size → H1[q]? = H[q]? := fun q h => o1 q (by rw [← hP.1]; exact h)
  refine kk p l e s m args below meth c H1 locs ls C (va_S_new hS z2 o2) (Wp_new hP z2 o2 ?_) hL
  rw [cell_int (c := 8) (z := N) ⟨by simp [nwS], by simp [nwS]⟩ (by decide) (by decide)]
  show H1[X.1 + S.1]? = some (vp_cell _ _)
  rw [e1, vp_cell_i]
  congr 2
  funext q
  simp [nwM, defaultValue]
  rfl
theorem mw_newz {n : Int32} {N : Nat} (hd : decode fr.2.1 pc = .ok (.newarray .boolean, 2)) (hw : Cond.arrayClass .boolean ∈ TW) (hn : ¬ n < 0) (hN : n.toNatClampNeg = N) (hb : N * componentBytes .boolean ≤ 536870912) (hc : kc + 1 ≤ R.cells) (hs : sl + N ≤ R.slots) (kk : MW X fr R (kc + 1) (sl + N) (pc + 2) L (.ref (X.1 + S.1) :: st) (nwS S 9 N) (nwM S mi) Q) : MW X fr R kc sl pc L (.int n :: st) S mi Q := by
  intro p l e s m args below meth c H locs ls C hS hP hL
  refine va_newaK (atype := .boolean) C.1 C.2.1 (C.2.2.2.2.1 _ hw) rfl hd rfl hn hN hb hc hs hP.1 fun H1 cA e1 z1 o1 hAr hNm => ?_
  have hcA : cA = X.2.2.1 1 := Option.some.inj (hNm.symm.trans (C.2.2.2.2.2.2.2.2.2.1.2 1 _ rfl).2)
  subst hcA
  have z2 : H1.size = H.size + 1 := by rw [z1, hP.1]
  have o2 : ∀ q : Nat, q < H.size → H1[q]? = H[q]? := fun q h => o1 q (by rw [← hP.1]; exact h)
  refine kk p l e s m args below meth c H1 locs ls C (va_S_new hS z2 o2) (Wp_new hP z2 o2 ?_) hL
  rw [cell_int (c := 9) (z := N) ⟨by simp [nwS], by simp [nwS]⟩ (by decide) (by decide)]
  show H1[X.1 + S.1]? = some (vp_cell _ _)
  rw [e1, vp_cell_i]
  congr 2
  funext q
  simp [nwM, defaultValue]
  rfl
theorem mw_newc {n : Int32} {N : Nat} (hd : decode fr.2.1 pc = .ok (.newarray .char, 2)) (hw : Cond.arrayClass .char ∈ TW) (hn : ¬ n < 0) (hN : n.toNatClampNeg = N) (hb : N * componentBytes .char ≤ 536870912) (hc : kc + 1 ≤ R.cells) (hs : sl + N ≤ R.slots) (kk : MW X fr R (kc + 1) (sl + N) (pc + 2) L (.ref (X.1 + S.1) :: st) (nwS S 10 N) (nwM S mi) Q) : MW X fr R kc sl pc L (.int n :: st) S mi Q := by
  intro p l e s m args below meth c H locs ls C hS hP hL
  refine va_newaK (atype := .char) C.1 C.2.1 (C.2.2.2.2.1 _ hw) rfl hd rfl hn hN hb hc hs hP.1 fun H1 cA e1 z1 o1 hAr hNm => ?_
  have hcA : cA = X.2.2.1 2 := Option.some.inj (hNm.symm.trans (C.2.2.2.2.2.2.2.2.2.1.2 2 _ rfl).2)
  subst hcA
  have z2 : H1.size = H.size + 1 := by rw [z1, hP.1]
  have o2 : ∀ q : Nat, q < H.size → H1[q]? = H[q]? := fun q h => o1 q (by rw [← hP.1]; exact h)
  refine kk p l e s m args below meth c H1 locs ls C (va_S_new hS z2 o2) (Wp_new hP z2 o2 ?_) hL
  rw [cell_int (c := 10) (z := N) ⟨by simp [nwS], by simp [nwS]⟩ (by decide) (by decide)]
  show H1[X.1 + S.1]? = some (vp_cell _ _)
  rw [e1, vp_cell_i]
  congr 2
  funext q
  simp [nwM, defaultValue]
  rfl
end MWM
