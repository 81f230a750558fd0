/-! the parsers side by side: what is shown, and a leaf -/
def En (b : Nat → Int32) (len f : Nat) (P : Ps) (G : Gt) (W : List Int32) : Prop := SR b len P G ∧ Pb len P ∧ P.2.1.2.1 = cntN W ∧ P.2.2.length + W.length ≤ G.2.1 ∧ len < G.2.1 + f
def enS (P : Ps) (G : Gt) (W : List Int32) (td : Nat → Int32) : Es := (G, (P.2.2.map enc, P.2.1.2.2, W), td, P.2.1.1, P.2.1.2.1, true)
def Ex (b : Nat → Int32) (len r j : Nat) (W : List Int32) (td : Nat → Int32) (P Q : Ps) (f : Nat) (G : Gt) (C V : List Int32) (te : Nat → Int32) : Prop :=
  (SR b len Q G ∧ Pb len Q ∧ kp P Q) ∧ C ++ V = Q.2.2.map enc ++ notsR j ∧ (∀ w, w ∈ V → ¬ w = -10 ∧ ¬ w = -11 ∧ ¬ rkM w < nI (r + 1)) ∧ (C.length + V.length + W.length ≤ G.2.1 ∧ len < G.2.1 + f) ∧ ((∀ k, k < P.2.1.1 → te k = td k) ∧ (2 < r → (te P.2.1.1 = 0 ↔ td P.2.1.1 = 0))) ∧ (rnkI (sgn b len Q) = -1 ∨ (∃ q, q < r ∧ rnkI (sgn b len Q) = nI q) ∨ (r ≤ 2 ∧ rnkI (sgn b len Q) = 2 ∧ ¬ te P.2.1.1 = 0))
def SimO (b : Nat → Int32) (len key r j : Nat) (W : List Int32) (td : Nat → Int32) (P : Ps) (f : Nat) (R : Bool × Ps) (s : Es) : Prop :=
  (R.1 = false ∧ ∃ s', esR b len key f s = (false, s') ∧ s'.1.2.1 = R.2.1.1) ∨
  (R.1 = true ∧ ∃ f' G C V te, esR b len key f s = esR b len key f' (G, (C, R.2.2.1.2.2, V ++ W), te, P.2.1.1, cntN W, false) ∧ Ex b len r j W td P R.2 f' G C V te)
def Sim (b : Nat → Int32) (len key fu r : Nat) : Prop := ∀ (P : Ps) (G : Gt) (W : List Int32) (j : Nat) (td : Nat → Int32) (f : Nat), muP r P < fu → En b len f P G (notsR j ++ W) → (r < 5 → j = 0) → topR r W → (r ≤ 2 → td P.2.1.1 = 0) → SimO b len key r j W td P f (par b len key fu r P) (enS P G (notsR j ++ W) td)
theorem en_f {b : Nat → Int32} {len f : Nat} {P : Ps} {G : Gt} {W : List Int32} (h : En b len f P G W) : ∃ g, f = g + 1 := by
  obtain ⟨h1, _, _, _, h5⟩ := h
  have h2 := h1.2.2.2.1
  exact ⟨f - 1, by have := h2.1; have := h2.2.1; omega⟩
theorem nots_len (j : Nat) : (notsR j).length = j := List.length_replicate
theorem sg_any {b : Nat → Int32} {len : Nat} {P : Ps} {G : Gt} (h : SR b len P G) : rnkI (sgn b len P) = -1 ∨ ∃ q, q < 5 ∧ rnkI (sgn b len P) = nI q := by
  rcases tr_sg h.1 (sr_lt h) h.2.2.2.1.2.2.1 with g | g
  · exact Or.inl g.2
  · exact Or.inr g.2.2.2.2.2
theorem sim_leaf {b : Nat → Int32} {len key f j : Nat} {P : Ps} {G : Gt} {W : List Int32} {td : Nat → Int32} {v : Int32} (hE : En b len f P G (notsR j ++ W)) (hW : topR 5 W) (h : tpB key G = true) (hv : enc v = tpV key G) (h4 : P.1.2.2 ≠ 4) (h0 : P.1.2.2 ≠ 0) : SimO b len key 5 j W td P f (true, leafP b len P v) (enS P G (notsR j ++ W) td) := by
  obtain ⟨g, rfl⟩ := en_f hE
  obtain ⟨e1, e2, e3, e4, e5⟩ := hE
  obtain ⟨a1, a2⟩ := sr_adv e1 e2 h4 h0
  rw [List.length_append, nots_len] at e4
  have hS : SR b len (leafP b len P v) (goS b len G) := sr_of (P := adv b len P) rfl a1
  have hG := hS.2.2.2.1
  have hl : P.2.2.length < 96 := by have := hG.1; have := hG.2.1; have := hG.2.2.2.2.2; omega
  refine Or.inr ⟨rfl, g, goS b len G, P.2.2.map enc ++ [tpV key G] ++ notsR j, [], td, es_leaf h hW, ⟨hS, pb_leaf e2, rfl, rfl⟩, ?_, (fun w hw => (nomatch hw)), ⟨?_, by omega⟩, ⟨fun _ _ => rfl, fun _ => Iff.rfl⟩, ?_⟩
  · show _ = (adC P.2.2 v).map enc ++ notsR j
    rw [adC, if_pos hl, List.map_append, List.append_nil, List.map_singleton, hv]
  · simp only [List.length_append, List.length_map, List.length_singleton, List.length_nil, nots_len]
    omega
  · rcases sg_any hS with q | ⟨q, q1, q2⟩
    · exact Or.inl q
    · exact Or.inr (Or.inl ⟨q, q1, q2⟩)
theorem sim_bad {b : Nat → Int32} {len key r f j : Nat} {P : Ps} {G : Gt} {W V : List Int32} {td : Nat → Int32} (hE : En b len f P G V) (h1 : ¬ (G.2.2.1 = 3 ∧ G.2.2.2.1 = 33 ∧ P.2.1.2.1 < 8)) (h2 : ¬ (G.2.2.1 = 3 ∧ G.2.2.2.1 = 40 ∧ P.2.1.1 < 8)) (h3 : ¬ tpB key G = true) : SimO b len key r j W td P f (false, P) (enS P G V td) := by
  obtain ⟨g, rfl⟩ := en_f hE
  exact Or.inl ⟨rfl, _, es_bad h1 h2 h3, hE.1.1.1.symm⟩
