/-! the texts of a town and of a row -/
def TxO (S : Sg) (m : Mem) (t : Nat) (A : Nat → Int32) (i : Nat) (p key : Nat) (l : List Int32) : Prop :=
  S.2.2 (t + 4) i = some p ∧ TxA S p l.length ∧ key < 3 ∧ Bk key l ∧ l.length ≤ 96 ∧ m p 0 = nI key ∧ m p 1 = A (66 + 2 * i + 1) ∧ (∀ j, j < l.length → m (p + 1) j = l.getD j 0) ∧ A (66 + 2 * i) = nI (1000 * key + l.length) ∧ (∀ j, j < l.length → A (94 + 96 * i + j) = enc (l.getD j 0))
def TxI (lim : Nat) (S : Sg) (m : Mem) (t : Nat) (A : Nat → Int32) (c : Nat) : Prop := c ≤ 14 ∧ A 5 = nI c ∧ TxR S t ∧ (∀ i, i < c → ∃ p key l, lim ≤ p ∧ TxO S m t A i p key l) ∧ ∀ k, k < 3 → m (t + 5) k = lastI A (nI k) c
theorem gDep_c {s s' : Nat → Int32} {n : Nat} (h : ∀ k, k < n → s k = s' k) : ∀ k, k ≤ n → gDep s k = gDep s' k
  | 0, _ => rfl
  | k + 1, hk => by
    simp only [gDep]
    rw [h k (by omega), gDep_c h k (by omega)]
theorem wfc_c {s s' : Nat → Int32} {n : Nat} (h : ∀ k, k < n → s k = s' k) (w : WfC s n) : WfC s' n := by
  refine ⟨w.1, w.2.1, fun k hk => ?_⟩
  rw [← h k hk, ← gDep_c h k (by omega)]
  exact w.2.2 k hk
theorem gRun_c {s s' nm p : Nat → Int32} {n : Nat} (h : ∀ k, k < n → s k = s' k) : ∀ k, k ≤ n → gRun nm s p k = gRun nm s' p k
  | 0, _ => rfl
  | k + 1, hk => by
    simp only [gRun]
    rw [h k (by omega), gRun_c h k (by omega)]
theorem lawF_c {s s' : Nat → Int32} {n : Nat} (h : ∀ k, k < n → s k = s' k) : lawF s n = lawF s' n := by
  funext a b c d
  unfold lawF
  rw [gRun_c h n (Nat.le_refl n)]
theorem lastK_in {A : Nat → Int32} {key : Int32} : ∀ n i, lastK A key n = some i → i < n ∧ A (66 + 2 * i) / 1000 = key
  | 0, i, h => by cases h
  | n + 1, i, h => by
    simp only [lastK] at h
    by_cases c : A (66 + 2 * n) / 1000 = key
    · rw [if_pos c] at h
      cases h
      exact ⟨Nat.lt_succ_self _, c⟩
    · rw [if_neg c] at h
      have := lastK_in n i h
      exact ⟨by omega, this.2⟩
theorem txo_key {S : Sg} {m : Mem} {t i p key : Nat} {A : Nat → Int32} {l : List Int32} (h : TxO S m t A i p key l) : A (66 + 2 * i) / 1000 = nI key ∧ jr (A (66 + 2 * i)) 1000 = nI l.length ∧ mLen A i = l.length := by
  obtain ⟨_, _, h3, _, h5, _, _, _, h9, _⟩ := h
  have e1 : A (66 + 2 * i) / 1000 = nI key := by
    rw [h9, show nI (1000 * key + l.length) / 1000 = nI ((1000 * key + l.length) / 1000) from pk_div (d := 1000) (by omega) (by decide) (by decide)]
    congr 1
    omega
  have e2 : jr (A (66 + 2 * i)) 1000 = nI l.length := by
    rw [h9, show jr (nI (1000 * key + l.length)) 1000 = nI ((1000 * key + l.length) % 1000) from jr_n (d := 1000) (by omega) (by decide) (by decide)]
    congr 1
    omega
  refine ⟨e1, e2, ?_⟩
  unfold mLen
  rw [e2, nI_clamp (by omega)]
theorem txi_of {lim : Nat} {S : Sg} {m : Mem} {t c : Nat} {A : Nat → Int32} (h : TxI lim S m t A c) {k : Nat} (hk : k < 3) : (lastK A (nI k) c = none ∧ txOf S m t k = none) ∨ (∃ i p l, i < c ∧ lastK A (nI k) c = some i ∧ txOf S m t k = some p ∧ TxO S m t A i p k l) := by
  obtain ⟨h1, h2, h3, h4, h5⟩ := h
  have e5 := h5 k hk
  unfold lastI at e5
  cases e : lastK A (nI k) c with
  | none =>
    rw [e] at e5
    refine Or.inl ⟨rfl, ?_⟩
    unfold txOf
    rw [e5, if_neg (fun z => absurd z.1 (by decide))]
  | some i =>
    rw [e] at e5
    dsimp only at e5
    obtain ⟨i1, i2⟩ := lastK_in c i e
    obtain ⟨p, key, l, _, o⟩ := h4 i i1
    have ek : key = k := by
      have := (txo_key o).1
      rw [i2] at this
      have k3 := o.2.2.1
      exact ((nI_eq (by omega) (by omega)).mp this).symm
    subst ek
    refine Or.inr ⟨i, p, l, i1, rfl, ?_, o⟩
    unfold txOf
    rw [e5, if_pos ⟨nI_pos' (by omega), (nI_leI (b := 13) (by omega) (by decide)).mpr (by omega)⟩, nI_clamp (by omega)]
    exact o.1
theorem txi_ok {lim : Nat} {S : Sg} {m : Mem} {t c : Nat} {A : Nat → Int32} (h : TxI lim S m t A c) {k : Nat} (hk : k < 3) : TxOk S m t k := by
  intro p hp
  rcases txi_of h hk with ⟨_, e⟩ | ⟨i, q, l, _, _, e, o⟩
  · rw [e] at hp; cases hp
  · rw [e] at hp
    cases hp
    exact ⟨l.length, o.2.1, wfc_c (fun j hj => (o.2.2.2.2.2.2.2.1 j hj).symm) (bk_wfc o.2.2.2.1 o.2.2.2.2.1)⟩
theorem txi_ok2 {lim : Nat} {S : Sg} {m : Mem} {t c : Nat} {A : Nat → Int32} (h : TxI lim S m t A c) {k : Nat} (hk : k < 3) (k0 : ¬ k = 0) : TxOk2 S m t k := by
  refine ⟨txi_ok h hk, fun p hp => ?_⟩
  rcases txi_of h hk with ⟨_, e⟩ | ⟨i, q, l, _, _, e, o⟩
  · rw [e] at hp; cases hp
  · rw [e] at hp
    cases hp
    have e8 : (S.2.1 (p + 1)).2 = l.length := by rw [o.2.1.2.2.1.2]
    rw [e8]
    intro j hj
    rw [o.2.2.2.2.2.2.2.1 j hj]
    exact bk_two o.2.2.2.1 k0 j hj
theorem txi_mt {lim : Nat} {S : Sg} {m : Mem} {t c : Nat} {A : Nat → Int32} (h : TxI lim S m t A c) : MtOk A c := by
  intro i hi
  obtain ⟨p, key, l, _, o⟩ := h.2.2.2.1 i hi
  obtain ⟨_, e2, e3⟩ := txo_key o
  rw [e3]
  exact ⟨e2, bk_wfm o.2.2.2.1 o.2.2.2.2.1 (fun j hj => o.2.2.2.2.2.2.2.2.2 j hj)⟩
theorem txi_lw {lim : Nat} {S : Sg} {m : Mem} {t c : Nat} {A : Nat → Int32} (h : TxI lim S m t A c) {k : Nat} (hk : k < 3) : lwC S m t k = lwM A (nI k) c := by
  unfold lwC lwM
  rcases txi_of h hk with ⟨e1, e2⟩ | ⟨i, p, l, _, e1, e2, o⟩
  · rw [e1, e2, Option.map_none, Option.map_none]
  · have e8 : (S.2.1 (p + 1)).2 = l.length := by rw [o.2.1.2.2.1.2]
    rw [e1, e2, Option.map_some, Option.map_some, e8, (txo_key o).2.2, lawF_c (fun j hj => o.2.2.2.2.2.2.2.1 j hj)]
    exact congrArg some (bk_law o.2.2.2.1 o.2.2.2.2.1 (s := fun j => A (94 + 96 * i + j)) (fun j hj => o.2.2.2.2.2.2.2.2.2 j hj))
theorem txi_24 {lim : Nat} {S : Sg} {m : Mem} {t c : Nat} {A : Nat → Int32} (h : TxI lim S m t A c) {k : Nat} (hk : k < 3) (k0 : ¬ k = 0) (x a b u v : Int32) : law4F (lwM A (nI k) c) x a b u v = law2F (lwC S m t k) x a b := by
  rw [← txi_lw h hk]
  have w := txi_ok h hk
  have w2 := (txi_ok2 h hk k0).2
  unfold lwC
  cases e : txOf S m t k with
  | none => rfl
  | some p =>
    obtain ⟨len, t1, t2⟩ := w p e
    have e8 : (S.2.1 (p + 1)).2 = len := by rw [t1.2.2.1.2]
    have t3 := w2 p e
    rw [e8] at t3
    show lawF (m (p + 1)) (S.2.1 (p + 1)).2 a b u v = lawF (m (p + 1)) (S.2.1 (p + 1)).2 a b 0 0
    rw [e8]
    exact gRun_law2 t2 t3 (nm := c4 a b u v) (p := fun _ => 0) rfl rfl
theorem txi_told {lim : Nat} {S : Sg} {m : Mem} {x c : Nat} {A : Nat → Int32} (h : TxI lim S m (x + 1) A c) (v w : Int32) : mTextTold A c v w = cTextTold S m x c v w := by
  unfold mTextTold cTextTold
  by_cases g : (0 ≤ v ∧ v ≤ nI c - 1) ∧ (0 ≤ w ∧ w ≤ 1)
  · rw [if_pos g, if_pos g]
    have c14 := h.1
    have hi : ∃ i, i < c ∧ v = nI i := by
      obtain ⟨j, hj, rfl⟩ := nI_of (x := v) (Int32.not_lt.mpr g.1.1)
      cases c with
      | zero =>
        have h2 := Int32.le_iff_toInt_le.mp g.1.2
        rw [nI_toInt hj, show (nI 0 - 1).toInt = -1 by decide] at h2
        omega
      | succ n =>
        have h2 := g.1.2
        rw [nI_pred] at h2
        have := (nI_leI hj (by omega)).mp h2
        exact ⟨j, by omega, rfl⟩
    obtain ⟨i, i1, rfl⟩ := hi
    rw [nI_clamp (by omega)]
    obtain ⟨p, key, l, _, o⟩ := h.2.2.2.1 i i1
    have ep : txP S x i = p := by unfold txP; rw [o.1]; rfl
    rw [ep, (txo_key o).1, o.2.2.2.2.2.1, o.2.2.2.2.2.2.1]
  · rw [if_neg g, if_neg g]
