/-! the parsers side by side: where they stand, a leaf -/
def SR (b : Nat → Int32) (len : Nat) (P : Ps) (G : Gt) : Prop := TR b P G ∧ tkW b len P ∧ tkD b len P ∧ Gb len G ∧ (P.1.2.2 ≠ 4 → P.1.2.2 ≠ 0 → edOk P G)
theorem sr_adv {b : Nat → Int32} {len : Nat} {P : Ps} {G : Gt} (h : SR b len P G) (hp : Pb len P) (h4 : P.1.2.2 ≠ 4) (h0 : P.1.2.2 ≠ 0) : SR b len (adv b len P) (goS b len G) ∧ G.2.1 < (goS b len G).2.1 := by
  obtain ⟨h1, h2, h3, h5, h6⟩ := h
  have hl : len ≤ 96 := hp.2.2.2.2.2.2
  have g := adv_go (b := b) hp.2.1 hl h1.2.1 (h6 h4 h0)
  have gg := gb_go (b := b) h5.2.1 hl
  have n0 : G.2.2.1 ≠ 0 := fun q => h0 ((tr_tok h1 (by decide) (by decide)).mp q)
  have := h5.2.2.2.1 n0
  exact ⟨⟨g.1, tkW_adv b len P, tkD_adv P, gg.1, g.2⟩, by omega⟩
theorem sr_of {b : Nat → Int32} {len : Nat} {P Q : Ps} {G : Gt} (e : P.1 = Q.1) (h : SR b len P G) : SR b len Q G := by
  obtain ⟨p1, p2⟩ := P
  obtain ⟨q1, q2⟩ := Q
  dsimp only at e
  subst e
  exact h
theorem sr_lt {b : Nat → Int32} {len : Nat} {P : Ps} {G : Gt} (h : SR b len P G) (c : P.1.2.2 = 3) : P.1.1 < len := by
  obtain ⟨h1, _, _, h5, _⟩ := h
  have t : G.2.2.1 = 3 := (tr_tok h1 (by decide) (by decide)).mpr c
  have := h5.2.2.2.1 (by omega)
  have := h5.2.1
  rw [h1.1]
  omega
def topR (r : Nat) (W : List Int32) : Prop := ∀ w V, W = w :: V → w = -11 ∨ rkM w < nI (r + 1)
def notsR (j : Nat) : List Int32 := List.replicate j (-10)
theorem nots_in {j : Nat} {w : Int32} (h : w ∈ notsR j) : w = -10 := List.eq_of_mem_replicate h
theorem set_nots {j : Nat} {C W : List Int32} (h : topR 5 W) : setF 6 C (notsR j ++ W) = (C ++ notsR j, W) := by
  refine setF_app 6 (notsR j) C W (fun w hw => ?_) h
  rw [nots_in hw]
  decide
theorem cntN_app : ∀ (V W : List Int32), cntN (V ++ W) = cntN V + cntN W
  | [], W => by rw [List.nil_append, cntN, Nat.zero_add]
  | v :: V, W => by rw [List.cons_append, cntN, cntN, cntN_app V W]; omega
theorem cntN_nots : ∀ j, cntN (notsR j) = j
  | 0 => rfl
  | j + 1 => by
    show (if (-10 : Int32) = -10 then 1 else 0) + cntN (notsR j) = j + 1
    rw [cntN_nots j, if_pos rfl]; omega
theorem cntN_0 : ∀ (V : List Int32), (∀ w, w ∈ V → ¬ w = -10) → cntN V = 0
  | [], _ => rfl
  | v :: V, h => by rw [cntN, if_neg (h v (List.mem_cons_self ..)), cntN_0 V (fun w hw => h w (List.mem_cons_of_mem _ hw))]
theorem tp_tok {key : Nat} {G : Gt} (h : tpB key G = true) : G.2.2.1 = 1 ∨ G.2.2.1 = 2 := by
  unfold tpB at h
  simp only [Bool.or_eq_true, Bool.and_eq_true, decide_eq_true_eq] at h
  rcases h with h | h
  · exact Or.inr h
  · exact Or.inl h.1.1
theorem es_leaf {b : Nat → Int32} {len key f j t pa no : Nat} {G : Gt} {C W : List Int32} {td : Nat → Int32} (h : tpB key G = true) (hW : topR 5 W) : esR b len key (f + 1) (G, (C, t, notsR j ++ W), td, pa, no, true) = esR b len key f (goS b len G, (C ++ [tpV key G] ++ notsR j, t + 1, W), td, pa, cntN W, false) := by
  have tk := tp_tok h
  have n3 : ¬ G.2.2.1 = 3 := by omega
  rw [esR, if_neg (fun g => Bool.noConfusion g.1), if_pos rfl, if_neg (fun g => n3 g.1), if_neg (fun g => n3 g.1), if_pos h, set_nots hW]
theorem es_not {b : Nat → Int32} {len key f j t pa no : Nat} {G : Gt} {C W : List Int32} {td : Nat → Int32} (h1 : G.2.2.1 = 3) (h2 : G.2.2.2.1 = 33) (h3 : no < 8) : esR b len key (f + 1) (G, (C, t, notsR j ++ W), td, pa, no, true) = esR b len key f (goS b len G, (C, t, notsR (j + 1) ++ W), td, pa, cntN (notsR (j + 1) ++ W), true) := by
  rw [esR, if_neg (fun g => Bool.noConfusion g.1), if_pos rfl, if_pos ⟨h1, h2, h3⟩]
  rfl
theorem es_open {b : Nat → Int32} {len key f t pa no : Nat} {G : Gt} {C W : List Int32} {td : Nat → Int32} (h1 : G.2.2.1 = 3) (h2 : G.2.2.2.1 = 40) (h3 : pa < 8) : esR b len key (f + 1) (G, (C, t, W), td, pa, no, true) = esR b len key f (goS b len G, (C, t, -11 :: W), upd td (pa + 1) 0, pa + 1, cntN (-11 :: W), true) := by
  rw [esR, if_neg (fun g => Bool.noConfusion g.1), if_pos rfl, if_neg (fun g => absurd (h2.symm.trans g.2.1) (by decide)), if_pos ⟨h1, h2, h3⟩]
theorem es_bad {b : Nat → Int32} {len key f t pa no : Nat} {G : Gt} {C W : List Int32} {td : Nat → Int32} (h1 : ¬ (G.2.2.1 = 3 ∧ G.2.2.2.1 = 33 ∧ no < 8)) (h2 : ¬ (G.2.2.1 = 3 ∧ G.2.2.2.1 = 40 ∧ pa < 8)) (h3 : ¬ tpB key G = true) : esR b len key (f + 1) (G, (C, t, W), td, pa, no, true) = (false, (G, (C, t, W), td, pa, no, true)) := by
  rw [esR, if_neg (fun g => Bool.noConfusion g.1), if_pos rfl, if_neg h1, if_neg h2, if_neg h3]
