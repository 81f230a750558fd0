/-- own's entry idx is field k of class ci of vwCl -/
def FL (own : String) (idx ci k : Nat) : Prop := ∃ q : vw_C, vwCl[ci]? = some q ∧ k < q.2.2 ∧ (q.2.1 k).1 = q.1 ∧ Cond.fieldLink own idx q.1 (q.2.1 k).2.1 (q.2.1 k).2.2.1 ∈ TW
/-- its finality and its type -/
def FT (ci k : Nat) (fin : Bool) (ty : FieldType) : Prop := ∀ q : vw_C, vwCl[ci]? = some q → (q.2.1 k).2.2.2 = fin ∧ parseFieldDescriptor (q.2.1 k).2.2.1 = some ty
/-- what the tables say of class ci -/
def CI (ci : Nat) (q : vw_C) : Prop := (∀ w ∈ u_ws q.1 q.2.1 q.2.2, w ∈ TW) ∧ ci < 8 ∧ nF ci = q.2.2 ∧ (∃ ty : Nat → FieldType, (∀ k, k < q.2.2 → parseFieldDescriptor (q.2.1 k).2.2.1 = some (ty k)) ∧ (∀ a, a < q.2.2 → ∀ b, b < q.2.2 → a ≠ b → (q.2.1 a).2.1 ≠ (q.2.1 b).2.1) ∧ ∀ k, k < q.2.2 → defaultValue (ty k) = if isR ci k then .null else .int 0) ∧ Cond.instantiable q.1 q.2.2 ∈ TW ∧ Cond.initialized q.1 ∈ TW
theorem ci_w0 : u_ws RX0 TX0 5 = ([111, 113, 115, 117, 119] : List Nat).filterMap (fun i => lw_tbl[i]?) := by decide +kernel
theorem ci_g0 : (u_ws RX0 TX0 5).all goodWord = true := by decide +kernel
theorem ci_d0 : ∀ k, k < 5 → defaultValue (tyX0 k) = if isR 0 k then .null else .int 0 := by decide +kernel
theorem ci_0 : CI 0 (RX0, TX0, 5) := ⟨fun w hw => by
    have hg := List.all_eq_true.mp ci_g0 w hw
    have hw2 : w ∈ u_ws RX0 TX0 5 := hw
    rw [ci_w0] at hw2
    obtain ⟨i, -, hi⟩ := List.mem_filterMap.mp hw2
    exact TW_of i hi hg, by decide, rfl, ⟨tyX0, tyX0_ok, nmX0, ci_d0⟩, TW_of 91 (by decide +kernel) (by decide +kernel), TW_of 59 (by decide +kernel) (by decide +kernel)⟩
theorem ci_w1 : u_ws RX1 TX1 3 = ([250, 252, 254] : List Nat).filterMap (fun i => lw_tbl[i]?) := by decide +kernel
theorem ci_g1 : (u_ws RX1 TX1 3).all goodWord = true := by decide +kernel
theorem ci_d1 : ∀ k, k < 3 → defaultValue (tyX1 k) = if isR 1 k then .null else .int 0 := by decide +kernel
theorem ci_1 : CI 1 (RX1, TX1, 3) := ⟨fun w hw => by
    have hg := List.all_eq_true.mp ci_g1 w hw
    have hw2 : w ∈ u_ws RX1 TX1 3 := hw
    rw [ci_w1] at hw2
    obtain ⟨i, -, hi⟩ := List.mem_filterMap.mp hw2
    exact TW_of i hi hg, by decide, rfl, ⟨tyX1, tyX1_ok, nmX1, ci_d1⟩, TW_of 239 (by decide +kernel) (by decide +kernel), TW_of 61 (by decide +kernel) (by decide +kernel)⟩
theorem ci_w2 : u_ws RX2 TX2 4 = ([272, 274, 276, 278] : List Nat).filterMap (fun i => lw_tbl[i]?) := by decide +kernel
theorem ci_g2 : (u_ws RX2 TX2 4).all goodWord = true := by decide +kernel
theorem ci_d2 : ∀ k, k < 4 → defaultValue (tyX2 k) = if isR 2 k then .null else .int 0 := by decide +kernel
theorem ci_2 : CI 2 (RX2, TX2, 4) := ⟨fun w hw => by
    have hg := List.all_eq_true.mp ci_g2 w hw
    have hw2 : w ∈ u_ws RX2 TX2 4 := hw
    rw [ci_w2] at hw2
    obtain ⟨i, -, hi⟩ := List.mem_filterMap.mp hw2
    exact TW_of i hi hg, by decide, rfl, ⟨tyX2, tyX2_ok, nmX2, ci_d2⟩, TW_of 257 (by decide +kernel) (by decide +kernel), TW_of 62 (by decide +kernel) (by decide +kernel)⟩
theorem ci_w3 : u_ws RX3 TX3 11 = ([212, 214, 216, 218, 220, 222, 224, 226, 228, 230, 232] : List Nat).filterMap (fun i => lw_tbl[i]?) := by decide +kernel
theorem ci_g3 : (u_ws RX3 TX3 11).all goodWord = true := by decide +kernel
theorem ci_d3 : ∀ k, k < 11 → defaultValue (tyX3 k) = if isR 3 k then .null else .int 0 := by decide +kernel
theorem ci_3 : CI 3 (RX3, TX3, 11) := ⟨fun w hw => by
    have hg := List.all_eq_true.mp ci_g3 w hw
    have hw2 : w ∈ u_ws RX3 TX3 11 := hw
    rw [ci_w3] at hw2
    obtain ⟨i, -, hi⟩ := List.mem_filterMap.mp hw2
    exact TW_of i hi hg, by decide, rfl, ⟨tyX3, tyX3_ok, nmX3, ci_d3⟩, TW_of 194 (by decide +kernel) (by decide +kernel), TW_of 60 (by decide +kernel) (by decide +kernel)⟩
theorem ci_w4 : u_ws RX4 TX4 3 = ([798, 800, 802] : List Nat).filterMap (fun i => lw_tbl[i]?) := by decide +kernel
theorem ci_g4 : (u_ws RX4 TX4 3).all goodWord = true := by decide +kernel
theorem ci_d4 : ∀ k, k < 3 → defaultValue (tyX4 k) = if isR 4 k then .null else .int 0 := by decide +kernel
theorem ci_4 : CI 4 (RX4, TX4, 3) := ⟨fun w hw => by
    have hg := List.all_eq_true.mp ci_g4 w hw
    have hw2 : w ∈ u_ws RX4 TX4 3 := hw
    rw [ci_w4] at hw2
    obtain ⟨i, -, hi⟩ := List.mem_filterMap.mp hw2
    exact TW_of i hi hg, by decide, rfl, ⟨tyX4, tyX4_ok, nmX4, ci_d4⟩, TW_of 786 (by decide +kernel) (by decide +kernel), TW_of 66 (by decide +kernel) (by decide +kernel)⟩
theorem ci_w5 : u_ws RX5 TX5 18 = ([156, 158, 160, 162, 164, 166, 168, 170, 172, 174, 176, 178, 180, 182, 184, 186, 188, 190] : List Nat).filterMap (fun i => lw_tbl[i]?) := by decide +kernel
theorem ci_g5 : (u_ws RX5 TX5 18).all goodWord = true := by decide +kernel
theorem ci_d5 : ∀ k, k < 18 → defaultValue (tyX5 k) = if isR 5 k then .null else .int 0 := by decide +kernel
theorem ci_5 : CI 5 (RX5, TX5, 18) := ⟨fun w hw => by
    have hg := List.all_eq_true.mp ci_g5 w hw
    have hw2 : w ∈ u_ws RX5 TX5 18 := hw
    rw [ci_w5] at hw2
    obtain ⟨i, -, hi⟩ := List.mem_filterMap.mp hw2
    exact TW_of i hi hg, by decide, rfl, ⟨tyX5, tyX5_ok, nmX5, ci_d5⟩, TW_of 82 (by decide +kernel) (by decide +kernel), TW_of 58 (by decide +kernel) (by decide +kernel)⟩
theorem ci_w6 : u_ws RX6 TX6 10 = ([291, 293, 295, 297, 299, 301, 303, 305, 307, 309] : List Nat).filterMap (fun i => lw_tbl[i]?) := by decide +kernel
theorem ci_g6 : (u_ws RX6 TX6 10).all goodWord = true := by decide +kernel
theorem ci_d6 : ∀ k, k < 10 → defaultValue (tyX6 k) = if isR 6 k then .null else .int 0 := by decide +kernel
theorem ci_6 : CI 6 (RX6, TX6, 10) := ⟨fun w hw => by
    have hg := List.all_eq_true.mp ci_g6 w hw
    have hw2 : w ∈ u_ws RX6 TX6 10 := hw
    rw [ci_w6] at hw2
    obtain ⟨i, -, hi⟩ := List.mem_filterMap.mp hw2
    exact TW_of i hi hg, by decide, rfl, ⟨tyX6, tyX6_ok, nmX6, ci_d6⟩, TW_of 74 (by decide +kernel) (by decide +kernel), TW_of 57 (by decide +kernel) (by decide +kernel)⟩
theorem ci_w7 : u_ws RX7 TX7 34 = ([939, 941, 943, 945, 947, 949, 951, 953, 955, 957, 959, 961, 963, 965, 967, 969, 971, 973, 975, 977, 979, 981, 983, 985, 987, 989, 991, 993, 995, 997, 999, 1001, 1003, 1005] : List Nat).filterMap (fun i => lw_tbl[i]?) := by decide +kernel
theorem ci_g7 : (u_ws RX7 TX7 34).all goodWord = true := by decide +kernel
theorem ci_d7 : ∀ k, k < 34 → defaultValue (tyX7 k) = if isR 7 k then .null else .int 0 := by decide +kernel
theorem ci_7 : CI 7 (RX7, TX7, 34) := ⟨fun w hw => by
    have hg := List.all_eq_true.mp ci_g7 w hw
    have hw2 : w ∈ u_ws RX7 TX7 34 := hw
    rw [ci_w7] at hw2
    obtain ⟨i, -, hi⟩ := List.mem_filterMap.mp hw2
    exact TW_of i hi hg, by decide, rfl, ⟨tyX7, tyX7_ok, nmX7, ci_d7⟩, TW_of 900 (by decide +kernel) (by decide +kernel), TW_of 63 (by decide +kernel) (by decide +kernel)⟩
theorem ci_all : ∀ (ci : Nat) (q : vw_C), vwCl[ci]? = some q → CI ci q := by
  intro ci q h
  match ci, h with
  | 0, h => cases h; exact ci_0
  | 1, h => cases h; exact ci_1
  | 2, h => cases h; exact ci_2
  | 3, h => cases h; exact ci_3
  | 4, h => cases h; exact ci_4
  | 5, h => cases h; exact ci_5
  | 6, h => cases h; exact ci_6
  | 7, h => cases h; exact ci_7
  | n + 8, h => simp [vwCl] at h
section MWH
variable {X : Xb} {fr : Fr} {R : Room} {kc sl pc : Nat} {L : List (Option Value)} {st : List Value} {S : Sg} {mi : Mem} {Q : Qt}
theorem mw_getv {idx ci k i z : Nat} (hd : decode fr.2.1 pc = .ok (.getfield idx, 3)) (hf : FL fr.1.cls idx ci k) (hk : Kd S i ci z) (kk : MW X fr R kc sl (pc + 3) L ((if isR ci k then va_rf ((S.2.2 i k).map (X.1 + ·)) else .int (mi i k)) :: st) S mi Q) : MW X fr R kc sl pc L (.ref (X.1 + i) :: st) S mi Q := by
  intro p l e s m args below meth c H locs ls C hS hP hL
  obtain ⟨q, h1, h2, h3, h4⟩ := hf
  obtain ⟨g1, g2, g3, -⟩ := ci_all ci q h1
  have hl := C.2.2.2.2.1 _ h4
  exact va_get (ci := ci) C.1 C.2.1 C.2.2.2.2.1 g1 C.2.2.2.1 C.2.2.2.2.2.2.2.2.2.1 hP.2 i (by rw [ws_at hk.1, cell_obj hk g2]) h1 k h2 hl (fun x hx => by rw [← h3]; exact hx) (flds_at (by rw [g3]; exact h2)) hd (kk p l e s m args below meth c H locs ls C hS hP hL)
theorem mw_geti {idx ci k i z : Nat} (hd : decode fr.2.1 pc = .ok (.getfield idx, 3)) (hf : FL fr.1.cls idx ci k) (hr : isR ci k = false) (hk : Kd S i ci z) (kk : MW X fr R kc sl (pc + 3) L (.int (mi i k) :: st) S mi Q) : MW X fr R kc sl pc L (.ref (X.1 + i) :: st) S mi Q :=
  mw_getv hd hf hk (by rw [hr]; exact kk)
theorem mw_getr {idx ci k i z j : Nat} (hd : decode fr.2.1 pc = .ok (.getfield idx, 3)) (hf : FL fr.1.cls idx ci k) (hr : isR ci k = true) (hk : Kd S i ci z) (hj : S.2.2 i k = some j) (kk : MW X fr R kc sl (pc + 3) L (.ref (X.1 + j) :: st) S mi Q) : MW X fr R kc sl pc L (.ref (X.1 + i) :: st) S mi Q :=
  mw_getv hd hf hk (by rw [hr, hj]; exact kk)
theorem Wp_put {X : Xb} {S S' : Sg} {mi mi' : Mem} {i : Nat} {H H1 : Heap} (hP : Wp X S mi H) (hn : S'.1 = S.1) (ho : ∀ j, j ≠ i → cellE X S' mi' j = cellE X S mi j) (z : H1.size = H.size) (oq : ∀ q : Nat, q ≠ X.1 + i → H1[q]? = H[q]?) (hnew : va_at X.2.1 vwCl (X.1 + i, cellE X S' mi' i) H1) : Wp X S' mi' H1 := by
  refine ⟨by rw [z, hP.1, hn], fun k q hk => ?_⟩
  by_cases hl : k < S.1
  · rw [ws_at (by omega)] at hk
    cases hk
    by_cases hki : k = i
    · subst hki; exact hnew
    · rw [ho k hki]
      exact (hP.2 k _ (ws_at hl)).kept (oq _ (by show X.1 + k ≠ X.1 + i; omega))
  · rw [List.getElem?_eq_none (by simp [wsOf]; omega)] at hk; cases hk
theorem mw_puti {idx ci k i z : Nat} {v : Int32} {ty : FieldType} (hd : decode fr.2.1 pc = .ok (.putfield idx, 3)) (hf : FL fr.1.cls idx ci k) (ht : FT ci k false ty) (hr : isR ci k = false) (hnar : narrow ty (.int v) = .int v) (hfit : fits ty (.int v) = true) (hk : Kd S i ci z) (kk : MW X fr R kc sl (pc + 3) L st S (m_up mi i k v) Q) : MW X fr R kc sl pc L (.int v :: .ref (X.1 + i) :: st) S mi Q := by
  intro p l e s m args below meth c H locs ls C hS hP hL
  obtain ⟨q, h1, h2, h3, h4⟩ := hf
  obtain ⟨g1, g2, g3, ⟨ty0, t1, t2, -⟩, -⟩ := ci_all ci q h1
  have hts := C.2.2.2.2.1
  have hlk := hts _ h4
  have hK := C.2.2.2.2.2.2.2.2.2.1
  have hap := va_apart (own := fr.1.cls) hts g1 ty0 t1 t2 hK h1
  have hat := hP.2 i _ (ws_at hk.1)
  rw [cell_obj hk g2] at hat
  obtain ⟨r, hr1, cell, q1, q2, q3, q4⟩ := hat
  have hrq : r = q := Option.some.inj (hr1.symm.trans h1)
  subst hrq
  obtain ⟨hSl, hfc, kC, hkC, hkind⟩ := hK.1 ci _ h1
  obtain ⟨cf, kf, fi, f, hi, hsl⟩ := hSl k h2
  have hlay := hts _ (g1 _ (u_in_lay h2))
  unfold u_lay at hlay
  rw [if_neg (by rw [(ht r h1).1]; decide)] at hlay
  have hst := (u_facts hfc hkC (u_lays hts g1 h2) hi).1
  have h6 := u_store hfc hkC hkind hlay hi (ht r h1).2 hnar hfit
  refine W.putK C.1 C.2.1 (f := f) ⟨C.2.2.2.1, hlk, ⟨_, _, _, by rw [← h3]; exact hi⟩, hst⟩ (by rw [q2]; exact h6) q1 q3 (by rw [hsl]; exact k2_hasslot (q4 k h2)) rfl rfl hd fun H' e1 e2 e3 => ?_
  rw [hsl] at e1 ⊢
  refine kk p l e s m args below meth c H' _ ls C (hS.put e2 e3 (Nat.le_add_right _ _)) (Wp_put (i := i) hP rfl (fun j hj => cell_eq rfl (m_up_ne hj) rfl) e2 e3 ?_) hL
  rw [cell_obj hk g2, ← flds_set (f := mi i) (f' := m_up mi i k v i) (g := S.2.2 i) (g' := S.2.2 i) (k := k) (v := .int v) (by rw [hr]; simp [m_up]) (fun j hj => ⟨by simp [m_up, hj], rfl⟩)]
  exact ⟨_, h1, t_OB.to (V := updV (vp_V (flds X.1 ci (mi i) (S.2.2 i))) k (.int v)) ⟨_, e1, q2, q3, t_set q4 hap h2 (.int v)⟩ (fun j _ => vp_updV_set (by rw [flds_len, g3]; exact h2) (.int v) j)⟩
/-- a final field, in its own constructor: an int or a reference -/
theorem mw_putF {idx ci k i z : Nat} {v : Value} {ty : FieldType} {mi' : Mem} {mr' : Rfm} (hd : decode fr.2.1 pc = .ok (.putfield idx, 3)) (hf : FL fr.1.cls idx ci k) (ht : FT ci k true ty) (hin : fr.1.name = "<init>") (hown : ∀ q : vw_C, vwCl[ci]? = some q → q.1 = fr.1.cls) (hnar : narrow ty v = v) (hfit : fits ty v = true) (hk : Kd S i ci z)
    (hv : (if isR ci k then va_rf ((mr' i k).map (X.1 + ·)) else .int (mi' i k)) = v) (hm : ∀ a b, ¬ (a = i ∧ b = k) → mi' a b = mi a b ∧ mr' a b = S.2.2 a b) (kk : MW X fr R kc sl (pc + 3) L st (S.1, S.2.1, mr') mi' Q) : MW X fr R kc sl pc L (v :: .ref (X.1 + i) :: st) S mi Q := by
  intro p l e s m args below meth c H locs ls C hS hP hL
  obtain ⟨q, h1, h2, h3, h4⟩ := hf
  obtain ⟨g1, g2, g3, ⟨ty0, t1, t2, -⟩, -⟩ := ci_all ci q h1
  have hts := C.2.2.2.2.1
  have hlk := hts _ h4
  have hK := C.2.2.2.2.2.2.2.2.2.1
  have hap := va_apart (own := fr.1.cls) hts g1 ty0 t1 t2 hK h1
  have hat := hP.2 i _ (ws_at hk.1)
  rw [cell_obj hk g2] at hat
  obtain ⟨r, hr1, cell, q1, q2, q3, q4⟩ := hat
  have hrq : r = q := Option.some.inj (hr1.symm.trans h1)
  subst hrq
  obtain ⟨hSl, hfc, kC, hkC, hkind⟩ := hK.1 ci _ h1
  obtain ⟨cf, kf, fi, f, hi, hsl⟩ := hSl k h2
  have hlay := hts _ (g1 _ (u_in_lay h2))
  unfold u_lay at hlay
  rw [if_pos (ht r h1).1] at hlay
  have hst := (u_facts hfc hkC (u_lays hts g1 h2) hi).1
  have hcf : m.cls = cf := by
    obtain ⟨_, _, c', _, _, _, -, -, hf', -, -, -, hown2, -⟩ := Cond.laysFinal_spec hlay
    have e1 : c' = cf := by have := hi.symm.trans hf'; simp at this; exact this.1.symm
    rw [h3, hown r h1] at hown2
    rw [← e1]; exact Option.some.inj (C.2.2.2.1.symm.trans hown2)
  have h6 := u_fits hfc hkC hkind (Or.inr hlay) hi (ht r h1).2 hnar hfit
  refine W.putFinK C.1 C.2.1 C.2.2.2.1 hlk (by rw [← h3]; exact hi) hst hcf (C.2.2.2.2.2.2.2.1.trans hin) (by rw [q2]; exact h6) q1 q3 (by rw [hsl]; exact k2_hasslot (q4 k h2)) rfl rfl hd fun H' e1 e2 e3 => ?_
  rw [hsl] at e1 ⊢
  refine kk p l e s m args below meth c H' _ ls C (hS.put e2 e3 (Nat.le_add_right _ _)) (Wp_put (i := i) hP rfl (fun j hj => cell_eq rfl (funext fun b => (hm j b (fun h => hj h.1)).1) (funext fun b => (hm j b (fun h => hj h.1)).2)) e2 e3 ?_) hL
  rw [cell_obj (S := (S.1, S.2.1, mr')) (z := z) hk g2, ← flds_set (f := mi i) (f' := mi' i) (g := S.2.2 i) (g' := mr' i) (k := k) (v := v) hv (fun j hj => hm i j (fun h => hj h.2))]
  exact ⟨_, h1, t_OB.to (V := updV (vp_V (flds X.1 ci (mi i) (S.2.2 i))) k v) ⟨_, e1, q2, q3, t_set q4 hap h2 v⟩ (fun j _ => vp_updV_set (by rw [flds_len, g3]; exact h2) v j)⟩
theorem ty_at (dA : Nat → ClassId) : (tysOf dA)[0]? = some (dA 0, .int) ∧ (tysOf dA)[1]? = some (dA 1, .boolean) ∧ (tysOf dA)[2]? = some (dA 2, .char) := ⟨rfl, rfl, rfl⟩
theorem mw_iald {i z : Nat} {j : Int32} (hd : decode fr.2.1 pc = .ok (.iaload, 1)) (hk : Kd S i 8 z) (hin : vp_in j z) (kk : MW X fr R kc sl (pc + 1) L (.int (mi i j.toNatClampNeg) :: st) S mi Q) : MW X fr R kc sl pc L (.int j :: .ref (X.1 + i) :: st) S mi Q :=
  fun p l e s m args below meth c H locs ls C hS hP hL => va_iald C.1 C.2.1 C.2.2.2.2.2.2.2.2.2.1 hP.2 i 0 (by rw [ws_at hk.1, cell_int hk (by decide) (by decide)]) rfl hin hd (kk p l e s m args below meth c H locs ls C hS hP hL)
theorem mw_zald {i z : Nat} {j : Int32} (hd : decode fr.2.1 pc = .ok (.baload, 1)) (hk : Kd S i 9 z) (hin : vp_in j z) (kk : MW X fr R kc sl (pc + 1) L (.int (mi i j.toNatClampNeg) :: st) S mi Q) : MW X fr R kc sl pc L (.int j :: .ref (X.1 + i) :: st) S mi Q :=
  fun p l e s m args below meth c H locs ls C hS hP hL => va_zald C.1 C.2.1 C.2.2.2.2.2.2.2.2.2.1 hP.2 i 1 (by rw [ws_at hk.1, cell_int hk (by decide) (by decide)]) rfl hin hd (kk p l e s m args below meth c H locs ls C hS hP hL)
theorem mw_cald {i z : Nat} {j : Int32} (hd : decode fr.2.1 pc = .ok (.caload, 1)) (hk : Kd S i 10 z) (hin : vp_in j z) (kk : MW X fr R kc sl (pc + 1) L (.int (mi i j.toNatClampNeg) :: st) S mi Q) : MW X fr R kc sl pc L (.int j :: .ref (X.1 + i) :: st) S mi Q :=
  fun p l e s m args below meth c H locs ls C hS hP hL => va_cald C.1 C.2.1 C.2.2.2.2.2.2.2.2.2.1 hP.2 i 2 (by rw [ws_at hk.1, cell_int hk (by decide) (by decide)]) rfl hin hd (kk p l e s m args below meth c H locs ls C hS hP hL)
theorem mw_aldv {i c0 z : Nat} {j : Int32} (hd : decode fr.2.1 pc = .ok (.aaload, 1)) (hk : Kd S i c0 z) (hc0 : c0 = 11 ∨ c0 = 12 ∨ c0 = 13 ∨ c0 = 14) (hin : vp_in j z) (kk : MW X fr R kc sl (pc + 1) L (va_rf ((S.2.2 i j.toNatClampNeg).map (X.1 + ·)) :: st) S mi Q) : MW X fr R kc sl pc L (.int j :: .ref (X.1 + i) :: st) S mi Q := by
  intro p l e s m args below meth c H locs ls C hS hP hL
  have hg := kk p l e s m args below meth c H locs ls C hS hP hL
  rcases hc0 with rfl | rfl | rfl | rfl
  · exact va_aldq C.1 C.2.1 C.2.2.2.2.2.2.2.2.2.1 hP.2 i 3 (by rw [ws_at hk.1, cell_ref hk (by decide)]) rfl hin hd hg
  · exact va_aldq C.1 C.2.1 C.2.2.2.2.2.2.2.2.2.1 hP.2 i 4 (by rw [ws_at hk.1, cell_ref hk (by decide)]) rfl hin hd hg
  · exact va_aldq C.1 C.2.1 C.2.2.2.2.2.2.2.2.2.1 hP.2 i 5 (by rw [ws_at hk.1, cell_ref hk (by decide)]) rfl hin hd hg
  · exact va_aldq C.1 C.2.1 C.2.2.2.2.2.2.2.2.2.1 hP.2 i 6 (by rw [ws_at hk.1, cell_ref hk (by decide)]) rfl hin hd hg
theorem mw_aldr {i c0 z a : Nat} {j : Int32} (hd : decode fr.2.1 pc = .ok (.aaload, 1)) (hk : Kd S i c0 z) (hc0 : c0 = 11 ∨ c0 = 12 ∨ c0 = 13 ∨ c0 = 14) (hin : vp_in j z) (ha : S.2.2 i j.toNatClampNeg = some a) (kk : MW X fr R kc sl (pc + 1) L (.ref (X.1 + a) :: st) S mi Q) : MW X fr R kc sl pc L (.int j :: .ref (X.1 + i) :: st) S mi Q :=
  mw_aldv hd hk hc0 hin (by rw [ha]; exact kk)
theorem mw_alen {i z : Nat} {v : Int32} (hd : decode fr.2.1 pc = .ok (.arraylength, 1)) (hk : Kd S i 8 z) (hv : Int32.ofNat z = v) (kk : MW X fr R kc sl (pc + 1) L (.int v :: st) S mi Q) : MW X fr R kc sl pc L (.ref (X.1 + i) :: st) S mi Q :=
  fun p l e s m args below meth c H locs ls C hS hP hL => va_alen C.1 C.2.1 C.2.2.2.2.2.2.2.2.2.1 hP.2 i 0 (by rw [ws_at hk.1, cell_int hk (by decide) (by decide)]) rfl hv hd (kk p l e s m args below meth c H locs ls C hS hP hL)
/-- the script, in the law alone -/
theorem mw_sld {j : Int32} (hd : decode fr.2.1 pc = .ok (.iaload, 1)) (hin : vp_in j X.2.2.2.2.2.2.2.1) (kk : MW X fr R kc sl (pc + 1) L (.int (X.2.2.2.2.2.2.2.2 j.toNatClampNeg) :: st) S mi Q) : MW X fr R kc sl pc L (.int j :: .ref X.2.2.2.2.2.2.1 :: st) S mi Q :=
  fun p l e s m args below meth c H locs ls C hS hP hL => va_sld C.1 C.2.1 C.2.2.2.2.2.2.2.2.2.2.2.2.2.2.2.2.2.2.1 (Nat.lt_of_lt_of_le C.2.2.2.2.2.2.2.2.2.2.2.2.2.2.2.2.2.2.2 C.2.2.2.2.2.2.2.2.1) (Nat.not_le.mpr C.2.2.2.2.2.2.2.2.2.2.2.2.2.2.2.2.2.2.2) hS hin hd (kk p l e s m args below meth c H locs ls C hS hP hL)
theorem mw_slen (hd : decode fr.2.1 pc = .ok (.arraylength, 1)) (kk : MW X fr R kc sl (pc + 1) L (.int (Int32.ofNat X.2.2.2.2.2.2.2.1) :: st) S mi Q) : MW X fr R kc sl pc L (.ref X.2.2.2.2.2.2.1 :: st) S mi Q :=
  fun p l e s m args below meth c H locs ls C hS hP hL => va_slen C.1 C.2.1 C.2.2.2.2.2.2.2.2.2.2.2.2.2.2.2.2.2.2.1 (Nat.lt_of_lt_of_le C.2.2.2.2.2.2.2.2.2.2.2.2.2.2.2.2.2.2.2 C.2.2.2.2.2.2.2.2.1) (Nat.not_le.mpr C.2.2.2.2.2.2.2.2.2.2.2.2.2.2.2.2.2.2.2) hS hd (kk p l e s m args below meth c H locs ls C hS hP hL)
end MWH
