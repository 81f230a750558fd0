/-! what is read hangs on the bytes of the tape alone -/
def sameB (b c : Nat → Int32) (len : Nat) : Prop := ∀ j, j < len → b j = c j
theorem srt_c {b c : Nat → Int32} {len : Nat} (h : sameB b c len) (p : Nat) : srtN b len p = srtN c len p := by
  unfold srtN
  by_cases g : p < len
  · rw [if_pos g, if_pos g, h p g]
  · rw [if_neg g, if_neg g]
theorem skB_c {b c : Nat → Int32} {len : Nat} (h : sameB b c len) : ∀ f p, skB b len f p = skB c len f p
  | 0, _ => rfl
  | f + 1, p => by
    simp only [skB]
    by_cases g : p < len
    · rw [h p g, skB_c h f (p + 1)]
    · rw [if_neg (fun z => g z.1), if_neg (fun z => g z.1)]
theorem skW_c {b c : Nat → Int32} {len s : Nat} (h : sameB b c len) : ∀ f p, skW b len s f p = skW c len s f p
  | 0, _ => rfl
  | f + 1, p => by
    simp only [skW]
    rw [srt_c h p, skW_c h f (p + 1)]
theorem adv_c {b c : Nat → Int32} {len : Nat} (h : sameB b c len) (P : Ps) : adv b len P = adv c len P := by
  unfold adv advS
  rw [skB_c h, srt_c h, skW_c h]
theorem sgn_c {b c : Nat → Int32} {len : Nat} (h : sameB b c len) (P : Ps) : sgn b len P = sgn c len P := by
  unfold sgn
  by_cases g : P.1.2.2 = 3 ∧ P.1.1 < len
  · rw [if_pos g, if_pos g, h _ g.2]
  · rw [if_neg g, if_neg g]
theorem nmH_c {b c : Nat → Int32} {len key : Nat} (h : sameB b c len) (P : Ps) : nmH b len key P = nmH c len key P := by
  unfold nmH
  by_cases g : P.1.2.1 - P.1.1 = 1 ∧ P.1.1 < len
  · rw [if_pos g, if_pos g, h _ g.2]
  · rw [if_neg g, if_neg g]
theorem num_c {b c : Nat → Int32} {len bg : Nat} (h : sameB b c len) : ∀ n, bg + n ≤ len → numF b bg n = numF c bg n
  | 0, _ => rfl
  | n + 1, hn => by
    simp only [numF]
    rw [num_c h n (by omega), h (bg + n) (by omega)]
theorem hrF_c {b c : Nat → Int32} {len bg i : Nat} (h : sameB b c len) : ∀ f k, bg + k + f ≤ len → hrF b bg i f k = hrF c bg i f k
  | 0, _, _ => rfl
  | f + 1, k, hk => by
    simp only [hrF]
    rw [h (bg + k) (by omega), hrF_c h f (k + 1) (by omega)]
theorem hrB_c {b c : Nat → Int32} {len i : Nat} {P : Ps} (h : sameB b c len) (hp : Pb len P) : hrB b P i = hrB c P i := by
  unfold hrB
  by_cases g : P.1.2.2 = 1 ∧ P.1.2.1 - P.1.1 = sN i
  · rw [if_pos g, if_pos g, hrF_c h _ _ (by have := hp.1; have := hp.2.1; have := g.2; omega)]
  · rw [if_neg g, if_neg g]
theorem keyH_c {b c : Nat → Int32} {len : Nat} {P : Ps} (h : sameB b c len) (hp : Pb len P) : keyH b P = keyH c P := by
  unfold keyH
  rw [hrB_c h hp, hrB_c h hp, hrB_c h hp]
theorem leaf_c {b c : Nat → Int32} {len : Nat} (h : sameB b c len) (P : Ps) (v : Int32) : leafP b len P v = leafP c len P v := adv_c h _
theorem tkW_c {b c : Nat → Int32} {len : Nat} {P : Ps} (h : sameB b c len) (k : tkW b len P) : tkW c len P := fun g => by rw [← srt_c h]; exact k g
def rdE (b : Nat → Int32) (len : Nat) (rd re : Ps → Bool × Ps) : Prop := ∀ P, Pb len P → tkW b len P → rd P = re P
theorem jl_c {b c : Nat → Int32} {len r : Nat} {rd re : Ps → Bool × Ps} (h : sameB b c len) (ho : rdOk b len rd) (he : rdE b len rd re) : ∀ n, rdE b len (jlF rd b len r n) (jlF re c len r n)
  | 0 => fun P h1 h2 => rfl
  | n + 1 => fun P h1 h2 => by
    have o := ho (adv b len P) (pb_adv h1) (tkW_adv b len P)
    rw [jlF, jlF, sgn_c h P, he (adv b len P) (pb_adv h1) (tkW_adv b len P), adv_c h P] at *
    rw [jl_c h ho he n _ (pb_adP o.1) o.2.1]
theorem not_c {b c : Nat → Int32} {len : Nat} {rd re : Ps → Bool × Ps} (h : sameB b c len) (he : rdE b len rd re) : rdE b len (notF b len rd) (notF c len re) := by
  intro P h1 h2
  unfold notF
  by_cases d : 8 ≤ P.2.1.2.1
  · rw [if_pos d, if_pos d]
  · rw [if_neg d, if_neg d, he _ (pb_adv (pb_nt h1 (by omega))) (tkW_adv b len _), adv_c h]
theorem opn_c {b c : Nat → Int32} {len : Nat} {rd re : Ps → Bool × Ps} (h : sameB b c len) (he : rdE b len rd re) : rdE b len (opnF b len rd) (opnF c len re) := by
  intro P h1 h2
  unfold opnF
  by_cases d : 8 ≤ P.2.1.1
  · rw [if_pos d, if_pos d]
  · rw [if_neg d, if_neg d, he _ (pb_adv (pb_op h1 (by omega))) (tkW_adv b len _), adv_c h, sgn_c h, adv_c h]
theorem par_c {b c : Nat → Int32} {len key : Nat} (h : sameB b c len) : ∀ f r, rdE b len (par b len key f r) (par c len key f r)
  | 0, r => fun P h1 h2 => rfl
  | f + 1, r => fun P h1 h2 => by
    by_cases hr : r < 5
    · rw [par_r hr, par_r hr, ← par_c h f (r + 1) P h1 h2]
      have o := par_ok (b := b) (len := len) (key := key) f (r + 1) P h1 h2
      by_cases d : (par b len key f (r + 1) P).1 = true
      · rw [if_pos d, if_pos d]
        exact jl_c h (par_ok f (r + 1)) (par_c h f (r + 1)) _ _ o.1 o.2.1
      · rw [if_neg d, if_neg d]
    · rw [par, par, if_neg hr, if_neg hr]
      unfold pieceF
      by_cases c2 : P.1.2.2 = 2
      · rw [if_pos c2, if_pos c2, leaf_c h, num_c h _ (by have := h1.1; have := h1.2.1; omega)]
      · rw [if_neg c2, if_neg c2]
        by_cases c1 : P.1.2.2 = 1
        · rw [if_pos c1, if_pos c1, leaf_c h, nmH_c h]
        · rw [if_neg c1, if_neg c1, sgn_c h, not_c h (par_c h f 5) P h1 h2, opn_c h (par_c h f 0) P h1 h2]
theorem rdT_c {b c : Nat → Int32} {len : Nat} (hl : len ≤ 96) (h : sameB b c len) : rdT b len = rdT c len := by
  have hp0 : Pb len Ps0 := ⟨Nat.le_refl 0, Nat.zero_le len, Nat.zero_le 4, Nat.zero_le 8, Nat.zero_le 8, Nat.zero_le 96, hl⟩
  have p0 : Pb len (adv b len Ps0) := pb_adv hp0
  have p1 : Pb len (adv b len (adv b len Ps0)) := pb_adv p0
  unfold rdT
  rw [keyH_c h p0, par_c h 70 0 _ p1 (tkW_adv b len _), adv_c h Ps0, adv_c h (adv c len Ps0)]
theorem chk_c {w w' p : Nat → Int32} {heard due : Nat} (h : ∀ i, i < heard → w i = w' i) : ∀ f k, chkF w p heard due f k = chkF w' p heard due f k
  | 0, _ => rfl
  | f + 1, k => by
    simp only [chkF]
    by_cases g : heard ≤ k
    · rw [if_pos (Or.inl g), if_pos (Or.inl g)]
    · rw [h k (by omega), chk_c h f (k + 1)]
theorem chkS_c {lw : LawT} {B : Nat → Int32} {n h wt : Nat} {kept v : Int32} {w w' : Nat → Int32} (e : ∀ i, i < wt → w i = w' i) : cCheck lw B n h kept w wt v = cCheck lw B n h kept w' wt v := by
  unfold cCheck
  rw [chk_c e]
