/-! The world as numbers: a cell of place i (address base + i) holds ints 'mi i j' and references 'S.2.2 i j' (places); its kind is 'S.2.1 i'.
kinds 0 .. 7: an object of vwCl; 8 int[], 9 boolean[], 10 char[], 11 Attic[], 12 Sheet[], 13 Slot[], 14 Text[] (with its length). -/
abbrev Mem : Type := Nat → Nat → Int32
abbrev Rfm : Type := Nat → Nat → Option Nat
abbrev Sg : Type := Nat × (Nat → Nat × Nat) × Rfm
/-- base; classes; array classes; KIND_ABOVE's address; the texts' addresses and their rows' ; the script's address, length, ints -/
abbrev Xb : Type := Nat × va_G × (Nat → ClassId) × Nat × (Nat → Nat) × (Nat → Nat) × Nat × Nat × (Nat → Int32)
abbrev rf (X : Xb) (i : Nat) : Value := .ref (X.1 + i)
abbrev bA (X : Xb) : Nat → Prop := fun q => X.1 ≤ q
def TW : List Cond := lw_tbl.filter goodWord
theorem TW_of {w : Cond} (i : Nat) (h : lw_tbl[i]? = some w) (g : goodWord w = true) : w ∈ TW := List.mem_filter.mpr ⟨List.mem_of_getElem? h, g⟩
def m_up (mi : Mem) (i j : Nat) (v : Int32) : Mem := fun a k => if a = i ∧ k = j then v else mi a k
def r_up (mr : Rfm) (i j : Nat) (v : Option Nat) : Rfm := fun a k => if a = i ∧ k = j then v else mr a k
def flds (b c : Nat) (f : Nat → Int32) (g : Nat → Option Nat) : List Value := (List.range (nF c)).map (fun j => if isR c j then va_rf ((g j).map (b + ·)) else .int (f j))
def cellE (X : Xb) (S : Sg) (mi : Mem) (i : Nat) : va_E :=
  if (S.2.1 i).1 < 8 then .inr ((S.2.1 i).1, flds X.1 (S.2.1 i).1 (mi i) (S.2.2 i))
  else if (S.2.1 i).1 < 11 then .inl (X.2.2.1 ((S.2.1 i).1 - 8), (S.2.1 i).2, .inl (mi i))
  else .inl (X.2.2.1 ((S.2.1 i).1 - 8), (S.2.1 i).2, .inr (.inr (.inr (.inr (fun j => (S.2.2 i j).map (X.1 + ·))))))
def wsOf (X : Xb) (S : Sg) (mi : Mem) : va_W := (List.range S.1).map (fun i => (X.1 + i, cellE X S mi i))
def tysOf (dA : Nat → ClassId) : List (ClassId × FieldType) := [(dA 0, .int), (dA 1, .boolean), (dA 2, .char), (dA 3, .object RX0), (dA 4, .object RX1), (dA 5, .object RX2), (dA 6, .object RX4)]
def Kd (S : Sg) (i c z : Nat) : Prop := i < S.1 ∧ S.2.1 i = (c, z)
def Wp (X : Xb) (S : Sg) (mi : Mem) (H : Heap) : Prop := H.size = X.1 + S.1 ∧ va_P X.2.1 vwCl (wsOf X S mi) H
theorem ws_at {X : Xb} {S : Sg} {mi : Mem} {i : Nat} (h : i < S.1) : (wsOf X S mi)[i]? = some (X.1 + i, cellE X S mi i) := by
  unfold wsOf
  rw [List.getElem?_map, List.getElem?_range h]; rfl
theorem ws_D (X : Xb) (S : Sg) (mi : Mem) : va_D (bA X) (wsOf X S mi) := by
  have h0 : ∀ (k : Nat) (q : Nat × va_E), (wsOf X S mi)[k]? = some q → q.1 = X.1 + k := by
    intro k q h
    by_cases hk : k < S.1
    · rw [ws_at hk] at h; cases h; rfl
    · exfalso
      have : (wsOf X S mi).length = S.1 := by simp [wsOf]
      rw [List.getElem?_eq_none (by omega)] at h; cases h
  refine ⟨fun i j p q hp hq e => ?_, fun k q h => ?_⟩
  · have h1 := h0 i p hp
    have h2 := h0 j q hq
    omega
  · show X.1 ≤ q.1
    have := h0 k q h
    omega
/-- a cell is written: the others are as they were -/
theorem ws_set {X : Xb} {S S' : Sg} {mi mi' : Mem} {i : Nat} {E : va_E} (hn : S'.1 = S.1) (hE : cellE X S' mi' i = E) (ho : ∀ j, j ≠ i → cellE X S' mi' j = cellE X S mi j) : (wsOf X S mi).set i (X.1 + i, E) = wsOf X S' mi' := by
  apply List.ext_getElem?
  intro j
  rw [List.getElem?_set]
  have hl : (wsOf X S mi).length = S.1 := by simp [wsOf]
  have hl' : (wsOf X S' mi').length = S.1 := by simp [wsOf, hn]
  by_cases hj : j < S.1
  · rw [ws_at (S := S') (by omega), ws_at hj]
    by_cases hij : i = j
    · subst hij
      simp [hl, hj, hE]
    · rw [if_neg hij, ho j (fun e => hij e.symm)]
  · rw [List.getElem?_eq_none (l := wsOf X S' mi') (by omega), List.getElem?_eq_none (l := wsOf X S mi) (by omega)]
    by_cases hij : i = j
    · subst hij
      simp [hl, hj]
    · rw [if_neg hij]
theorem ws_push {X : Xb} {S S' : Sg} {mi mi' : Mem} {E : va_E} (hn : S'.1 = S.1 + 1) (hE : cellE X S' mi' S.1 = E) (ho : ∀ j, j < S.1 → cellE X S' mi' j = cellE X S mi j) : wsOf X S mi ++ [(X.1 + S.1, E)] = wsOf X S' mi' := by
  unfold wsOf
  rw [hn, List.range_succ, List.map_append, List.map_singleton, hE]
  congr 1
  apply List.map_congr_left
  intro j hj
  rw [ho j (List.mem_range.mp hj)]
theorem flds_len (b c : Nat) (f : Nat → Int32) (g : Nat → Option Nat) : (flds b c f g).length = nF c := by simp [flds]
theorem flds_at {b c k : Nat} {f : Nat → Int32} {g : Nat → Option Nat} (h : k < nF c) : (flds b c f g)[k]? = some (if isR c k then va_rf ((g k).map (b + ·)) else .int (f k)) := by
  unfold flds
  rw [List.getElem?_map, List.getElem?_range h]; rfl
theorem flds_set {b c k : Nat} {f f' : Nat → Int32} {g g' : Nat → Option Nat} {v : Value} (hv : (if isR c k then va_rf ((g' k).map (b + ·)) else .int (f' k)) = v) (ho : ∀ j, j ≠ k → f' j = f j ∧ g' j = g j) : (flds b c f g).set k v = flds b c f' g' := by
  apply List.ext_getElem?
  intro j
  rw [List.getElem?_set]
  by_cases hj : j < nF c
  · rw [flds_at hj, flds_at hj]
    by_cases hkj : k = j
    · subst hkj
      simp [flds_len, hj, hv]
    · rw [if_neg hkj, (ho j (fun e => hkj e.symm)).1, (ho j (fun e => hkj e.symm)).2]
  · rw [List.getElem?_eq_none (l := flds b c f' g') (by rw [flds_len]; omega), List.getElem?_eq_none (l := flds b c f g) (by rw [flds_len]; omega)]
    by_cases hkj : k = j
    · subst hkj
      simp [flds_len, hj]
    · rw [if_neg hkj]
theorem cell_obj {X : Xb} {S : Sg} {mi : Mem} {i c z : Nat} (h : Kd S i c z) (hc : c < 8) : cellE X S mi i = .inr (c, flds X.1 c (mi i) (S.2.2 i)) := by
  unfold cellE
  rw [h.2]; simp [hc]
theorem cell_int {X : Xb} {S : Sg} {mi : Mem} {i c z : Nat} (h : Kd S i c z) (hc : ¬ c < 8) (hc2 : c < 11) : cellE X S mi i = .inl (X.2.2.1 (c - 8), z, .inl (mi i)) := by
  unfold cellE
  rw [h.2]; simp [hc, hc2]
theorem cell_ref {X : Xb} {S : Sg} {mi : Mem} {i c z : Nat} (h : Kd S i c z) (hc : ¬ c < 11) : cellE X S mi i = .inl (X.2.2.1 (c - 8), z, .inr (.inr (.inr (.inr (fun j => (S.2.2 i j).map (X.1 + ·)))))) := by
  unfold cellE
  rw [h.2]; simp [hc, show ¬ c < 8 by omega]
theorem cell_eq {X : Xb} {S S' : Sg} {mi mi' : Mem} {j : Nat} (hk : S'.2.1 j = S.2.1 j) (hm : mi' j = mi j) (hr : S'.2.2 j = S.2.2 j) : cellE X S' mi' j = cellE X S mi j := by
  unfold cellE
  rw [hk, hm, hr]
theorem m_up_ne {mi : Mem} {i j a : Nat} {v : Int32} (h : a ≠ i) : m_up mi i j v a = mi a := by
  funext k
  simp [m_up, h]
theorem r_up_ne {mr : Rfm} {i j a : Nat} {v : Option Nat} (h : a ≠ i) : r_up mr i j v a = mr a := by
  funext k
  simp [r_up, h]
theorem m_up_row (mi : Mem) (i j : Nat) (v : Int32) : m_up mi i j v i = upd (mi i) j v := by
  funext k
  simp [m_up, upd]
/-! the locals -/
def prs (L : List (Option Value)) : List (Nat × Value) := (List.range L.length).filterMap (fun i => (L.getD i none).map (fun v => (i, v)))
theorem prs_mem {L : List (Option Value)} {i : Nat} {v : Value} : (i, v) ∈ prs L ↔ L[i]? = some (some v) := by
  unfold prs
  rw [List.mem_filterMap]
  constructor
  · rintro ⟨a, ha, h⟩
    rw [List.mem_range] at ha
    rw [Option.map_eq_some_iff] at h
    obtain ⟨w, hw, e⟩ := h
    cases e
    rw [List.getD_eq_getElem?_getD, List.getElem?_eq_getElem ha, Option.getD_some] at hw
    rw [List.getElem?_eq_getElem ha, hw]
  · intro h
    have hl : i < L.length := (List.getElem?_eq_some_iff.mp h).1
    refine ⟨i, List.mem_range.mpr hl, ?_⟩
    rw [List.getD_eq_getElem?_getD, h]; rfl
def Lv (ls : Array Slot) (nL : Nat) (L : List (Option Value)) : Prop := L.length = nL ∧ lv_has ls nL (prs L) ∧ ∀ (i : Nat) (v : Value), L[i]? = some (some v) → v.category = 1
theorem Lv.at {ls : Array Slot} {nL : Nat} {L : List (Option Value)} (h : Lv ls nL L) {i : Nat} {v : Value} (hi : L[i]? = some (some v)) : ls[i]? = some (.val v) := h.2.1.2.2 (i, v) (prs_mem.mpr hi)
theorem Lv.store {ls' : Array Slot} {nL : Nat} {L : List (Option Value)} {i : Nat} {x : Value} (hlen : L.length = nL) (hcat : ∀ (i : Nat) (v : Value), L[i]? = some (some v) → v.category = 1) (hi : i < nL) (hx : x.category = 1)
    (h : lv_has ls' nL ((i, x) :: (prs L).filter (fun q => !(q.1 == i) && !(q.1 + 1 == i && q.2.category == 2)))) : Lv ls' nL (L.set i (some x)) := by
  have key : ∀ (j : Nat) (v : Value), (L.set i (some x))[j]? = some (some v) → (j = i ∧ v = x) ∨ (j ≠ i ∧ L[j]? = some (some v)) := by
    intro j v hj
    rw [List.getElem?_set] at hj
    by_cases e : i = j
    · subst e
      rw [if_pos rfl, if_pos (by omega)] at hj
      cases hj; exact Or.inl ⟨rfl, rfl⟩
    · rw [if_neg e] at hj
      exact Or.inr ⟨fun q => e q.symm, hj⟩
  refine ⟨by rw [List.length_set]; exact hlen, ⟨h.1, h.2.1, fun q hq => ?_⟩, fun j v hj => ?_⟩
  · obtain ⟨j, v⟩ := q
    rcases key j v (prs_mem.mp hq) with ⟨rfl, rfl⟩ | ⟨e, hj⟩
    · exact h.2.2 _ List.mem_cons_self
    · refine h.2.2 _ (List.mem_cons_of_mem _ (List.mem_filter.mpr ⟨prs_mem.mpr hj, ?_⟩))
      have hc := hcat j v hj
      simp [e, hc]
  · rcases key j v hj with ⟨rfl, rfl⟩ | ⟨e, hj⟩
    · exact hx
    · exact hcat j v hj
/-- fewer known locals -/
def lsub : List (Option Value) → List (Option Value) → Prop
  | [], [] => True
  | a :: A, b :: B => (a = b ∨ a = none) ∧ lsub A B
  | _, _ => False
theorem lsub_at : ∀ {A B : List (Option Value)}, lsub A B → A.length = B.length ∧ ∀ (i : Nat) (v : Value), A[i]? = some (some v) → B[i]? = some (some v)
  | [], [], _ => ⟨rfl, fun i v h => by simp at h⟩
  | a :: A, b :: B, h => by
    obtain ⟨h1, h2⟩ := lsub_at h.2
    refine ⟨by simp [h1], fun i v hv => ?_⟩
    cases i with
    | zero =>
      rcases h.1 with rfl | rfl
      · exact hv
      · simp at hv
    | succ n =>
      simp only [List.getElem?_cons_succ] at hv ⊢
      exact h2 n v hv
  | [], _ :: _, h => h.elim
  | _ :: _, [], h => h.elim
theorem Lv.sub {ls : Array Slot} {nL : Nat} {A B : List (Option Value)} (h : Lv ls nL B) (hs : lsub A B) : Lv ls nL A := by
  obtain ⟨h1, h2⟩ := lsub_at hs
  refine ⟨h1.trans h.1, ⟨h.2.1.1, h.2.1.2.1, fun q hq => ?_⟩, fun i v hv => h.2.2 i v (h2 i v hv)⟩
  obtain ⟨j, v⟩ := q
  exact h.at (h2 j v (prs_mem.mp hq))
