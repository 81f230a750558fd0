/-! the steps of a text that is read: a rank's, all -/
theorem bal_jl {b : Nat → Int32} {len key r : Nat} {rd : Ps → Bool × Ps} (hr : r < 5) (hrd : BalR b len key rd) : ∀ (c : Nat) (P : Ps), St b len P → (jlF rd b len r c P).1 = true → ∃ l, (jlF rd b len r c P).2.2.2 = P.2.2 ++ l ∧ ((∀ d, dpL (d + 1) l = some (d + 1)) ∧ ∀ x, x ∈ l → gd key x) ∧ P.1.1 + l.length ≤ (jlF rd b len r c P).2.1.1 ∧ St b len (jlF rd b len r c P).2
  | 0, P, h, _ => ⟨[], (List.append_nil _).symm, ⟨fun _ => rfl, fun x hx => (nomatch hx)⟩, Nat.le_refl _, h⟩
  | c + 1, P, h, ht => by
    rw [jlF] at ht ⊢
    by_cases e : rnkI (sgn b len P) = nI r
    · rw [if_pos e] at ht ⊢
      obtain ⟨h1, h2, h3, h4, h5⟩ := h
      have h0 : P.1.2.2 ≠ 0 := by
        intro g
        have e1 : sgn b len P = -1 := by rw [sgn, if_neg (fun z => by have := z.1; omega)]
        rw [e1] at e
        have hn : ∀ q, q < 5 → ¬ rnkI (-1) = nI q := by decide
        exact hn r hr e
      have hsg := rnk_sg hr e
      obtain ⟨s1, s3⟩ := st_adv (b := b) h1 h4 h0 (by omega)
      have e2 : (adv b len P).2.2 = P.2.2 := rfl
      generalize -(sgn b len P) = sg at hsg ht
      generalize adv b len P = P1 at s1 s3 ht e2
      have bl := hrd P1 s1
      generalize rd P1 = R at bl ht
      obtain ⟨r1, r2⟩ := R
      cases r1 with
      | false => rw [if_neg (fun g => Bool.noConfusion g)] at ht; cases ht
      | true =>
        rw [if_pos rfl] at ht ⊢
        obtain ⟨l, b1, ⟨b2, b3⟩, b4, ⟨c1, c2, c3, c4, c5⟩⟩ := bl rfl
        dsimp only at b1 b4 c1 c2 c3 c4 c5 ht ⊢
        rw [e2] at b1
        have lb := congrArg List.length b1
        rw [List.length_append] at lb
        have u1 := c1.1
        have u2 := c1.2.1
        have u3 := c1.2.2.2.2.2.2
        have hl : r2.2.2.length < 96 := by omega
        have ea : (adP r2 sg).2.2 = P.2.2 ++ (l ++ [sg]) := by
          show adC r2.2.2 sg = _
          rw [adC, if_pos hl, b1, List.append_assoc]
        have e3 : (adP r2 sg).1.1 = r2.1.1 := rfl
        have sA : St b len (adP r2 sg) := ⟨pb_adP c1, c2, c3, c4, by rw [ea, List.length_append, List.length_append, List.length_singleton, e3]; omega⟩
        generalize adP r2 sg = P2 at ht ea sA e3
        obtain ⟨m, m1, ⟨m2, m3⟩, m4, m5⟩ := bal_jl hr hrd c P2 sA ht
        refine ⟨l ++ [sg] ++ m, by rw [m1, ea, List.append_assoc], ⟨fun d => ?_, fun x hx => ?_⟩, ?_, m5⟩
        · rw [List.append_assoc, dpL_app _ l (d + 1) (d + 2) (b2 (d + 1)), List.singleton_append]
          simp only [dpL]
          have g := sg_lo sg hsg
          rw [if_pos g.1, if_neg g.2, if_neg (by omega), show d + 2 - 1 = d + 1 by omega]
          exact m2 d
        · rcases List.mem_append.mp hx with g | g
          · rcases List.mem_append.mp g with g | g
            · exact b3 x g
            · rw [List.mem_singleton.mp g]
              exact Or.inr (Or.inr (Or.inr hsg))
          · exact m3 x g
        · rw [List.length_append, List.length_append, List.length_singleton]
          omega
    · rw [if_neg e] at ht ⊢
      exact ⟨[], (List.append_nil _).symm, ⟨fun _ => rfl, fun x hx => (nomatch hx)⟩, Nat.le_refl _, h⟩
theorem bal_piece {b : Nat → Int32} {len key : Nat} {rdE rdP : Ps → Bool × Ps} (hk : key < 3) (oP : rdOk b len rdP) (hE : BalR b len key rdE) (hP : BalR b len key rdP) : BalR b len key (pieceF b len key rdE rdP) := by
  intro P h ht
  unfold pieceF at ht ⊢
  by_cases c2 : P.1.2.2 = 2
  · rw [if_pos c2] at ht ⊢
    by_cases d : P.1.2.1 - P.1.1 ≤ 4
    · rw [if_pos d]
      obtain ⟨q, hq, e⟩ := num_in (b := b) (bg := P.1.1) (P.1.2.1 - P.1.1) d (fun k hk => srt2_in (h.2.2.1 c2 (P.1.1 + k) (by omega) (by omega)))
      have hq' : q < 10000 := Nat.lt_of_lt_of_le hq (Nat.pow_le_pow_right (n := 10) (by decide) d)
      exact bal_leaf h (by omega) (by rw [e]; exact num_lo hq') (Or.inl ⟨q, hq', e⟩)
    · rw [if_neg d] at ht
      cases ht
  · rw [if_neg c2] at ht ⊢
    by_cases c1 : P.1.2.2 = 1
    · rw [if_pos c1] at ht ⊢
      by_cases d : nmH b len key P < 0
      · rw [if_pos d] at ht
        cases ht
      · rw [if_neg d]
        have ex : ∃ k, k < (if key = 0 then 4 else 2) ∧ nmH b len key P = nI k := by
          unfold nmH at d ⊢
          by_cases c : P.1.2.1 - P.1.1 = 1 ∧ P.1.1 < len
          · rw [if_pos c] at d ⊢
            rw [← nm_ix key hk] at d ⊢
            exact nm_in2 hk _ d
          · rw [if_neg c] at d
            exact absurd (by decide) d
        obtain ⟨k, k1, k2⟩ := ex
        have k4 : k < 4 := by split at k1 <;> omega
        exact bal_leaf h (by omega) (by rw [k2]; exact nm_lo k k4) (Or.inr (Or.inl ⟨k, k1, by rw [k2]⟩))
    · rw [if_neg c1] at ht ⊢
      by_cases c33 : sgn b len P = 33
      · rw [if_pos c33] at ht ⊢
        refine bal_not oP hP P h (fun g => ?_) ht
        rw [sgn, if_neg (fun z => by have := z.1; omega)] at c33
        exact absurd c33 (by decide)
      · rw [if_neg c33] at ht ⊢
        by_cases c40 : sgn b len P = 40
        · rw [if_pos c40] at ht ⊢
          refine bal_opn hE P h (fun g => ?_) ht
          rw [sgn, if_neg (fun z => by have := z.1; omega)] at c40
          exact absurd c40 (by decide)
        · rw [if_neg c40] at ht
          cases ht
theorem bal_par {b : Nat → Int32} {len key : Nat} (hk : key < 3) : ∀ f r, BalR b len key (par b len key f r)
  | 0, r => fun P h ht => by rw [par] at ht; cases ht
  | f + 1, r => fun P h ht => by
    by_cases hr : r < 5
    · rw [par_r hr] at ht ⊢
      have ih := bal_par (b := b) (len := len) hk f (r + 1)
      by_cases c : (par b len key f (r + 1) P).1 = true
      · rw [if_pos c] at ht ⊢
        obtain ⟨l, b1, ⟨b2, b3⟩, b4, b5⟩ := ih P h c
        obtain ⟨m, m1, ⟨m2, m3⟩, m4, m5⟩ := bal_jl hr ih (mostN r) _ b5 ht
        refine ⟨l ++ m, by rw [m1, b1, List.append_assoc], ⟨fun d => ?_, fun x hx => ?_⟩, ?_, m5⟩
        · rw [dpL_app _ l d (d + 1) (b2 d)]
          exact m2 d
        · exact (List.mem_append.mp hx).elim (b3 x) (m3 x)
        · rw [List.length_append]
          omega
      · rw [if_neg c] at ht
        cases ht
    · have e : par b len key (f + 1) r P = pieceF b len key (par b len key f 0) (par b len key f 5) P := by rw [par, if_neg hr]
      rw [e] at ht ⊢
      exact bal_piece hk (par_ok f 5) (bal_par hk f 0) (bal_par hk f 5) P h ht
theorem rdT_bk {b : Nat → Int32} {len key : Nat} {P : Ps} (hl : len ≤ 96) (h : rdT b len = .inr (key, P)) : key < 3 ∧ Bk key P.2.2 ∧ P.2.2.length ≤ 96 := by
  have hp0 : Pb len Ps0 := ⟨Nat.le_refl 0, Nat.zero_le len, Nat.zero_le 4, Nat.zero_le 8, Nat.zero_le 8, Nat.zero_le 96, hl⟩
  have p0 : Pb len (adv b len Ps0) := pb_adv hp0
  have n0 := tkN_adv (b := b) hp0
  have e2 : (adv b len Ps0).2 = Ps0.2 := rfl
  unfold rdT at h
  generalize adv b len Ps0 = P0 at h p0 n0 e2
  by_cases c : keyH b P0 < 0
  · rw [if_pos c] at h
    cases h
  · rw [if_neg c] at h
    have so : P0.1.2.2 = 1 := by
      have h1 : ∀ i, ¬ P0.1.2.2 = 1 → ¬ hrB b P0 i = true := fun i g q => by
        unfold hrB at q
        rw [if_neg (fun z => g z.1)] at q
        cases q
      by_cases g : P0.1.2.2 = 1
      · exact g
      · exfalso
        apply c
        unfold keyH
        rw [if_neg (h1 0 g), if_neg (h1 1 g), if_neg (h1 2 g)]
        decide
    obtain ⟨k, k3, ek⟩ := keyH_in c
    have hk : (keyH b P0).toNatClampNeg = k := by rw [ek]; exact nI_clamp (by omega)
    rw [hk] at h
    have s1 := (st_adv (b := b) p0 n0 (by omega) (by rw [e2]; exact Nat.zero_le _)).1
    have e3 : (adv b len P0).2 = Ps0.2 := e2
    generalize adv b len P0 = P1 at h s1 e3
    have bl := bal_par (b := b) (len := len) k3 70 0 P1 s1
    generalize par b len k 70 0 P1 = R at h bl
    by_cases d : R.1 = true ∧ R.2.1.2.2 = 0
    · rw [if_pos d] at h
      have h' := Sum.inr.inj h
      have q1 : k = key := congrArg Prod.fst h'
      have q2 : R.2 = P := congrArg Prod.snd h'
      obtain ⟨l, b1, b2, b4, b5⟩ := bl d.1
      rw [q2] at b1 b5
      rw [e3] at b1
      have b1' : P.2.2 = l := b1
      rw [b1', ← q1]
      refine ⟨k3, b2, ?_⟩
      have := b5.1.2.2.2.2.2.1
      rw [b1'] at this
      exact this
    · rw [if_neg d] at h
      cases h
