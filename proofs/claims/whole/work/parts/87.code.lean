/-! the steps of a text that is read: they can be worked out -/
def dpL : Nat → List Int32 → Option Nat
  | d, [] => some d
  | d, x :: l => if x < -4 then (if x = -33 then (if d < 1 then none else dpL d l) else if d < 2 then none else dpL (d - 1) l) else dpL (d + 1) l
theorem dpL_app (m : List Int32) : ∀ (l : List Int32) (d e : Nat), dpL d l = some e → dpL d (l ++ m) = dpL e m
  | [], d, e, h => by
    simp only [dpL, Option.some.injEq] at h
    rw [h, List.nil_append]
  | x :: l, d, e, h => by
    rw [List.cons_append]
    simp only [dpL] at h ⊢
    by_cases c1 : x < -4
    · rw [if_pos c1] at h ⊢
      by_cases c2 : x = -33
      · rw [if_pos c2] at h ⊢
        by_cases c3 : d < 1
        · rw [if_pos c3] at h; cases h
        · rw [if_neg c3] at h ⊢; exact dpL_app m l d e h
      · rw [if_neg c2] at h ⊢
        by_cases c3 : d < 2
        · rw [if_pos c3] at h; cases h
        · rw [if_neg c3] at h ⊢; exact dpL_app m l (d - 1) e h
    · rw [if_neg c1] at h ⊢; exact dpL_app m l (d + 1) e h
def sgL : List Int32 := [-124, -38, -60, -61, -62, -43, -45, -42, -47]
def gd (key : Nat) (x : Int32) : Prop := (∃ q, q < 10000 ∧ x = nI q) ∨ (∃ k, k < (if key = 0 then 4 else 2) ∧ x = -1 - nI k) ∨ x = -33 ∨ x ∈ sgL
theorem sg_lo : ∀ x, x ∈ sgL → x < -4 ∧ ¬ x = -33 := by decide
theorem nm_lo : ∀ k, k < 4 → ¬ (-1 - nI k) < -4 := by decide
theorem num_lo {q : Nat} (h : q < 10000) : ¬ nI q < -4 := fun g => nI_pos (n := q) (by omega) (Int32.lt_trans g (by decide))
theorem rnk_sg {c : Int32} {r : Nat} (hr : r < 5) (h : rnkI c = nI r) : -c ∈ sgL := by
  by_cases g : c = 38 ∨ c = 42 ∨ c = 43 ∨ c = 45 ∨ c = 47 ∨ c = 60 ∨ c = 61 ∨ c = 62 ∨ c = 124
  · rcases g with rfl | rfl | rfl | rfl | rfl | rfl | rfl | rfl | rfl <;> decide
  · simp only [not_or] at g
    obtain ⟨h1, h2, h3, h4, h5, h6, h7, h8, h9⟩ := g
    rw [rnkI, if_neg h1, if_neg h2, if_neg h3, if_neg h4, if_neg h5, if_neg h6, if_neg h7, if_neg h8, if_neg h9] at h
    have hn : ∀ q, q < 5 → ¬ (-1 : Int32) = nI q := by decide
    exact absurd h (hn r hr)
/-- names: of the first key four, of the others two -/
theorem nm_in2 {key : Nat} (hk : key < 3) (c : Int32) (h : ¬ nmM (nI key) c < 0) : ∃ k, k < (if key = 0 then 4 else 2) ∧ nmM (nI key) c = nI k := by
  by_cases k0 : key = 0
  · rw [if_pos k0]
    exact nm_in hk c h
  · rw [if_neg k0]
    have h3 : key = 1 ∨ key = 2 := by omega
    unfold nmM at h ⊢
    rcases h3 with rfl | rfl
    · rw [if_neg (by decide), if_pos (by decide)] at h ⊢
      repeat' split
      · exact ⟨0, by decide, rfl⟩
      · exact ⟨1, by decide, rfl⟩
      · rename_i a1 a2
        rw [if_neg a1, if_neg a2] at h
        exact absurd (by decide) h
    · rw [if_neg (by decide), if_neg (by decide)] at h ⊢
      repeat' split
      · exact ⟨0, by decide, rfl⟩
      · exact ⟨1, by decide, rfl⟩
      · rename_i a1 a2
        rw [if_neg a1, if_neg a2] at h
        exact absurd (by decide) h
def tkN (P : Ps) : Prop := P.1.2.2 ≠ 0 → P.1.1 < P.1.2.1
theorem tkN_adv {b : Nat → Int32} {len : Nat} {P : Ps} (h : Pb len P) : tkN (adv b len P) := by
  have gb := skB_le (b := b) (len := len) (len - P.1.2.1) P.1.2.1 h.2.1
  unfold tkN adv
  dsimp only
  generalize skB b len (len - P.1.2.1) P.1.2.1 = bg at gb
  unfold advS
  split
  · intro _; dsimp only; omega
  · split
    · intro g; exact absurd rfl g
    · rename_i n0
      intro _
      dsimp only
      have hlt : bg < len := srtN_lt (b := b) n0
      obtain ⟨k, hk⟩ : ∃ k, len - bg = k + 1 := ⟨len - bg - 1, by omega⟩
      rw [hk]
      simp only [skW]
      rw [if_pos ⟨hlt, trivial⟩]
      have := skW_le (b := b) (len := len) (s := srtN b len bg) k (bg + 1) (by omega)
      omega
theorem adv_end {b : Nat → Int32} {len : Nat} {P : Ps} (h : Pb len P) : P.1.2.1 ≤ (adv b len P).1.1 := by
  have g1 := skB_le (b := b) (len := len) (len - P.1.2.1) P.1.2.1 h.2.1
  unfold adv
  dsimp only
  generalize skB b len (len - P.1.2.1) P.1.2.1 = bg at g1
  unfold advS
  split
  · dsimp only; omega
  · split
    · dsimp only; omega
    · dsimp only; omega
def St (b : Nat → Int32) (len : Nat) (P : Ps) : Prop := Pb len P ∧ tkW b len P ∧ tkD b len P ∧ tkN P ∧ P.2.2.length ≤ P.1.1
theorem st_adv {b : Nat → Int32} {len : Nat} {Q : Ps} (h : Pb len Q) (hn : tkN Q) (h0 : Q.1.2.2 ≠ 0) (hl : Q.2.2.length ≤ Q.1.1 + 1) : St b len (adv b len Q) ∧ Q.1.1 + 1 ≤ (adv b len Q).1.1 := by
  have g := adv_end (b := b) h
  have := hn h0
  refine ⟨⟨pb_adv h, tkW_adv b len Q, tkD_adv Q, tkN_adv h, ?_⟩, by omega⟩
  show Q.2.2.length ≤ _
  omega
def Bk (key : Nat) (l : List Int32) : Prop := (∀ d, dpL d l = some (d + 1)) ∧ ∀ x, x ∈ l → gd key x
def BalR (b : Nat → Int32) (len key : Nat) (rd : Ps → Bool × Ps) : Prop := ∀ P, St b len P → (rd P).1 = true → ∃ l, (rd P).2.2.2 = P.2.2 ++ l ∧ Bk key l ∧ P.1.1 + l.length ≤ (rd P).2.1.1 ∧ St b len (rd P).2
theorem bal_leaf {b : Nat → Int32} {len key : Nat} {P : Ps} {v : Int32} (h : St b len P) (h0 : P.1.2.2 ≠ 0) (hv : ¬ v < -4) (hg : gd key v) : ∃ l, (leafP b len P v).2.2 = P.2.2 ++ l ∧ Bk key l ∧ P.1.1 + l.length ≤ (leafP b len P v).1.1 ∧ St b len (leafP b len P v) := by
  obtain ⟨h1, h2, h3, h4, h5⟩ := h
  have hn := h4 h0
  have e1 := h1.2.1
  have e2 := h1.2.2.2.2.2.2
  have hl : P.2.2.length < 96 := by omega
  have g := pb_adP (v := v) h1
  have p : Pb len (P.1, (P.2.1.1, P.2.1.2.1, P.2.1.2.2 + 1), adC P.2.2 v) := ⟨g.1, g.2.1, g.2.2.1, g.2.2.2.1, g.2.2.2.2.1, g.2.2.2.2.2.1, g.2.2.2.2.2.2⟩
  have ea : adC P.2.2 v = P.2.2 ++ [v] := by rw [adC, if_pos hl]
  have s := st_adv (b := b) p h4 h0 (by show (adC P.2.2 v).length ≤ P.1.1 + 1; rw [ea, List.length_append, List.length_singleton]; omega)
  refine ⟨[v], ea, ⟨fun d => ?_, fun x hx => ?_⟩, s.2, s.1⟩
  · simp only [dpL]
    rw [if_neg hv]
  · rw [List.mem_singleton.mp hx]
    exact hg
theorem bal_not {b : Nat → Int32} {len key : Nat} {rd : Ps → Bool × Ps} (ho : rdOk b len rd) (hrd : BalR b len key rd) (P : Ps) (h : St b len P) (h0 : P.1.2.2 ≠ 0) (ht : (notF b len rd P).1 = true) : ∃ l, (notF b len rd P).2.2.2 = P.2.2 ++ l ∧ Bk key l ∧ P.1.1 + l.length ≤ (notF b len rd P).2.1.1 ∧ St b len (notF b len rd P).2 := by
  obtain ⟨h1, h2, h3, h4, h5⟩ := h
  unfold notF at ht ⊢
  by_cases d : 8 ≤ P.2.1.2.1
  · rw [if_pos d] at ht
    cases ht
  · rw [if_neg d] at ht ⊢
    have p1 : Pb len (ntU P (P.2.1.2.1 + 1)) := pb_nt h1 (by omega)
    obtain ⟨s1, s2⟩ := st_adv (b := b) p1 h4 h0 (by show P.2.2.length ≤ P.1.1 + 1; omega)
    have s3 : P.1.1 + 1 ≤ (adv b len (ntU P (P.2.1.2.1 + 1))).1.1 := s2
    have e2 : (adv b len (ntU P (P.2.1.2.1 + 1))).2.2 = P.2.2 := rfl
    generalize adv b len (ntU P (P.2.1.2.1 + 1)) = P1 at s1 s3 ht e2
    have o := ho P1 s1.1 s1.2.1
    have bl := hrd P1 s1
    generalize rd P1 = R at o bl ht
    obtain ⟨r1, r2⟩ := R
    cases r1 with
    | false => rw [if_neg (fun g => Bool.noConfusion g)] at ht; cases ht
    | true =>
      rw [if_pos rfl]
      obtain ⟨l, b1, ⟨b2, b3⟩, b4, ⟨c1, c2, c3, c4, c5⟩⟩ := bl rfl
      dsimp only at b1 b4 c1 c2 c3 c4 c5 ⊢
      rw [e2] at b1
      have lb := congrArg List.length b1
      rw [List.length_append] at lb
      have u1 := c1.1
      have u2 := c1.2.1
      have u3 := c1.2.2.2.2.2.2
      have u4 := c1.2.2.2.2.1
      have hl : r2.2.2.length < 96 := by omega
      have ea : adC r2.2.2 (-33) = P.2.2 ++ (l ++ [-33]) := by rw [adC, if_pos hl, b1, List.append_assoc]
      refine ⟨l ++ [-33], ea, ⟨fun d => ?_, fun x hx => ?_⟩, ?_, ⟨pb_adP (pb_nt c1 (by omega)), c2, c3, c4, ?_⟩⟩
      · rw [dpL_app _ l d (d + 1) (b2 d)]
        simp only [dpL]
        rw [if_pos (by decide), if_pos trivial, if_neg (by omega)]
      · rcases List.mem_append.mp hx with g | g
        · exact b3 x g
        · rw [List.mem_singleton.mp g]
          exact Or.inr (Or.inr (Or.inl rfl))
      · rw [List.length_append, List.length_singleton]
        show _ ≤ r2.1.1
        omega
      · show (adC r2.2.2 (-33)).length ≤ r2.1.1
        rw [adC, if_pos hl, List.length_append, List.length_singleton]
        omega
theorem bal_opn {b : Nat → Int32} {len key : Nat} {rd : Ps → Bool × Ps} (hrd : BalR b len key rd) (P : Ps) (h : St b len P) (h0 : P.1.2.2 ≠ 0) (ht : (opnF b len rd P).1 = true) : ∃ l, (opnF b len rd P).2.2.2 = P.2.2 ++ l ∧ Bk key l ∧ P.1.1 + l.length ≤ (opnF b len rd P).2.1.1 ∧ St b len (opnF b len rd P).2 := by
  obtain ⟨h1, h2, h3, h4, h5⟩ := h
  unfold opnF at ht ⊢
  by_cases d : 8 ≤ P.2.1.1
  · rw [if_pos d] at ht
    cases ht
  · rw [if_neg d] at ht ⊢
    have p1 : Pb len (opU P (P.2.1.1 + 1)) := pb_op h1 (by omega)
    obtain ⟨s1, s2⟩ := st_adv (b := b) p1 h4 h0 (by show P.2.2.length ≤ P.1.1 + 1; omega)
    have s3 : P.1.1 + 1 ≤ (adv b len (opU P (P.2.1.1 + 1))).1.1 := s2
    have e2 : (adv b len (opU P (P.2.1.1 + 1))).2.2 = P.2.2 := rfl
    generalize adv b len (opU P (P.2.1.1 + 1)) = P1 at s1 s3 ht e2
    have bl := hrd P1 s1
    generalize rd P1 = R at bl ht
    obtain ⟨r1, r2⟩ := R
    by_cases c : (r1, r2).1 = true ∧ sgn b len (r1, r2).2 = 41
    · rw [if_pos c]
      obtain ⟨l, b1, b2, b4, ⟨c1, c2, c3, c4, c5⟩⟩ := bl c.1
      have c41 := c.2
      dsimp only at b1 b4 c1 c2 c3 c4 c5 c41 ⊢
      rw [e2] at b1
      have n0 : r2.1.2.2 ≠ 0 := by
        intro g
        rw [sgn, if_neg (fun z => by have := z.1; omega)] at c41
        exact absurd c41 (by decide)
      have u4 := c1.2.2.2.1
      have p2 : Pb len (opU r2 (r2.2.1.1 - 1)) := pb_op c1 (by omega)
      obtain ⟨t1, t2⟩ := st_adv (b := b) p2 c4 n0 (by show r2.2.2.length ≤ r2.1.1 + 1; omega)
      have t3 : r2.1.1 + 1 ≤ (adv b len (opU r2 (r2.2.1.1 - 1))).1.1 := t2
      exact ⟨l, b1, b2, by omega, t1⟩
    · rw [if_neg c] at ht
      cases ht
