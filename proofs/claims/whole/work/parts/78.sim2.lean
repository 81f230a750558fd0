/-! the parsers side by side: behind a part -/
theorem es_close {b : Nat → Int32} {len key f t pa no j : Nat} {G : Gt} {C V W : List Int32} {td : Nat → Int32} (h1 : G.2.2.1 = 3) (h2 : G.2.2.2.1 = 41) (h3 : 0 < pa) (hV : ∀ w, w ∈ V → ¬ w = -11) (hW : topR 5 W) : esR b len key (f + 1) (G, (C, t, V ++ -11 :: (notsR j ++ W)), td, pa, no, false) = esR b len key f (goS b len G, (C ++ V ++ notsR j, t, W), td, pa - 1, cntN W, false) := by
  have n0 : ∀ s : Int32, ¬ rkM s < 0 := by
    intro s
    unfold rkM
    repeat' split
    all_goals decide
  have e : setF 0 C (V ++ -11 :: (notsR j ++ W)) = (C ++ V, -11 :: (notsR j ++ W)) := setF_app 0 V C _ (fun w hw => ⟨hV w hw, n0 w⟩) (fun w U hw => Or.inl (by cases hw; rfl))
  rw [esR, if_neg (fun g => absurd (h1.symm.trans g.2) (by decide)), if_neg (by decide), if_pos ⟨h1, h2, h3⟩, e]
  dsimp only [List.tail_cons]
  rw [set_nots hW]
theorem es_sign {b : Nat → Int32} {len key f t pa no r : Nat} {G : Gt} {C V W : List Int32} {td : Nat → Int32} {s : Int32} (h1 : G.2.2.1 = 3) (hs : sgM (nI G.2.2.1) G.2.2.2.1 = s) (h0 : ¬ s = 0) (hr : rkM s = nI (r + 1)) (h41 : ¬ G.2.2.2.1 = 41) (ht : r = 2 → td pa = 0) (hr5 : r < 5) (hV : ∀ w, w ∈ V → ¬ w = -11 ∧ ¬ rkM w < nI (r + 1)) (hW : topR r W) : esR b len key (f + 1) (G, (C, t, V ++ W), td, pa, no, false) = esR b len key f (goS b len G, (C ++ V, t, s :: W), upd td pa (if r = 2 ∨ (2 < r ∧ ¬ td pa = 0) then 1 else 0), pa, no, true) := by
  have e3 : nI (r + 1) = 3 ↔ r = 2 := by
    rw [show (3 : Int32) = nI 3 from rfl, nI_eq (by omega) (by decide)]
    omega
  have e4 : (3 : Int32) < nI (r + 1) ↔ 2 < r := by
    rw [show (3 : Int32) = nI 3 from rfl, nI_ltI (by decide) (by omega)]
    omega
  rw [esR, if_neg (fun g => absurd (h1.symm.trans g.2) (by decide)), if_neg (by decide), if_neg (fun g => h41 g.2.1), hs, hr, if_neg (fun g => g.elim h0 (fun q => q.2 (ht (e3.mp q.1)))), setF_app _ V C W hV hW]
  simp only [e3, e4]
theorem es_end {b : Nat → Int32} {len key f t pa no : Nat} {G : Gt} {C V : List Int32} {td : Nat → Int32} (h1 : G.2.2.1 = 0) (hV : ∀ w, w ∈ V → ¬ w = -11) : esR b len key (f + 1) (G, (C, t, V), td, pa, no, false) = (decide (pa = 0), (G, (C ++ V, t, []), td, pa, no, false)) := by
  have n0 : ∀ s : Int32, ¬ rkM s < 0 := by
    intro s
    unfold rkM
    repeat' split
    all_goals decide
  have e : setF 0 C (V ++ []) = (C ++ V, []) := setF_app 0 V C [] (fun w hw => ⟨hV w hw, n0 w⟩) (fun w U hw => by cases hw)
  rw [List.append_nil] at e
  rw [esR, if_pos ⟨rfl, h1⟩, e]
theorem es_stop {b : Nat → Int32} {len key f t pa no : Nat} {G : Gt} {C W : List Int32} {td : Nat → Int32} (h0 : ¬ G.2.2.1 = 0) (h41 : ¬ (G.2.2.1 = 3 ∧ G.2.2.2.1 = 41 ∧ 0 < pa)) (h : sgM (nI G.2.2.1) G.2.2.2.1 = 0 ∨ (rkM (sgM (nI G.2.2.1) G.2.2.2.1) = 3 ∧ ¬ td pa = 0)) : esR b len key (f + 1) (G, (C, t, W), td, pa, no, false) = (false, (G, (C, t, W), td, pa, no, false)) := by
  rw [esR, if_neg (fun g => h0 g.2), if_neg (by decide), if_neg h41, if_pos h]
