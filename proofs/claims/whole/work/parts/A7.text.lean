/-! the step: text -/
theorem TxI.up2 {lim t c : Nat} {S : Sg} {m m' : Mem} {A : Nat → Int32} (h : TxI lim S m t A c) (e5 : m' (t + 5) = m (t + 5)) (ep : ∀ a, lim ≤ a → a < S.1 → m' a = m a) : TxI lim S m' t A c := by
  obtain ⟨h1, h2, h3, h4, h6⟩ := h
  refine ⟨h1, h2, h3, fun i hi => ?_, fun k hk => by rw [e5]; exact h6 k hk⟩
  obtain ⟨p, key, l, hp, o1, o2, o3, o4, o5, o6, o7, o8, o9, o10⟩ := h4 i hi
  refine ⟨p, key, l, hp, o1, o2, o3, o4, o5, by rw [ep p hp o2.1.1]; exact o6, by rw [ep p hp o2.1.1]; exact o7, fun j hj => by rw [ep (p + 1) (by omega) o2.2.2.1.1]; exact o8 j hj, o9, o10⟩
theorem TwQ.fr2 {lim t n h c : Nat} {S : Sg} {m m' : Mem} {A : Nat → Int32} (q : TwQ lim S m t A n h c) (e : ∀ a, t ≤ a → a < t + 17 → m' a = m a) (ep : ∀ a, lim ≤ a → a < S.1 → m' a = m a) : TwQ lim S m' t A n h c := by
  obtain ⟨q1, q2, q3, q4, q5⟩ := q
  have n8 := q3.1
  exact ⟨fun j hj => by rw [tv_c e j (by omega)]; exact q1 j hj, q2, q3, q4, q5.up2 (e _ (by omega) (by omega)) ep⟩
theorem IvI.fr2 {S : Sg} {m m' : Mem} {x : Nat} (h : IvI S m x) (e0 : m' x 3 = m x 3) (e1 : m' (x + 87) 3 = m (x + 87) 3) (e2 : m' (x + 89) = m (x + 89)) (e : ∀ a, x + 35 ≤ a → a < x + 52 → m' a = m a) (ep : ∀ a, x + 110 ≤ a → a < S.1 → m' a = m a) : IvI S m' x := by
  obtain ⟨h1, h2⟩ := h
  refine ⟨by rw [e0, e1]; exact h1, ?_⟩
  rw [e0, e2]
  rcases h2 with g | ⟨g, n, hh, c, q⟩
  · exact Or.inl g
  · exact Or.inr ⟨g, n, hh, c, q.fr2 (fun a h1 h2 => e a (by omega) (by omega)) ep⟩
theorem inv_N {S S' : Sg} {m M : Mem} {x : Nat} (hI : Inv S m x) (sx : SgX x S S') (s39 : S'.2.2 (x + 39) = S.2.2 (x + 39)) (hT : IvT M x) (hN : IvN S' M x) (hZ : IvZ M x) (fr : ∀ a, a < S.1 ∧ a ≠ x + 1 ∧ a ≠ x + 6 ∧ a ≠ x + 52 ∧ a ≠ x + 54 ∧ a ≠ x + 87 ∧ a ≠ x + 88 ∧ a ≠ x + 96 ∧ a ≠ x + 97 ∧ a ≠ x + 98 → M a = m a) (g3 : M (x + 87) 3 = m (x + 87) 3) (g33 : M (x + 87) 33 = m (x + 87) 33) : Inv S' M x := by
  obtain ⟨i1, i2, i3, i4, i5, i6, i7, i8⟩ := hI
  have lS := i1.2.2
  exact ⟨sx.iv i1, hN, sx.im s39 (i3.fr2 (by rw [fr x (by omega)]) g3 (fr _ (by omega)) (fun a h1 h2 => fr a (by omega)) (fun a h1 h2 => fr a (by omega))), hT, i5.fr (fun a h1 h2 => fr a (by omega)) (fr _ (by omega)) (fr _ (by omega)) (fr _ (by omega)), i6.fr (fun a h1 h2 => fr a (by omega)) (fr _ (by omega)) (fr _ (by omega)) (fr _ (by omega)) (fr _ (by omega)), i7.fr (by rw [fr x (by omega)]) g33 (fr _ (by omega)) (fr _ (by omega)), hZ⟩
/-- the model's row behind a text -/
theorem txA_lo {A : Nat → Int32} {c key t j : Nat} {C : List Int32} (hj : j < 66) (h5 : j ≠ 5) : txA A c key C t j = A j := by
  simp only [txA, upd, cpC]
  rw [if_neg h5, if_neg (by omega), if_neg (by omega), if_neg (by omega)]
theorem txA_5 {A : Nat → Int32} {c key t : Nat} {C : List Int32} : txA A c key C t 5 = nI (c + 1) := upd_at _ _ _
theorem txA_k {A : Nat → Int32} {c key t i : Nat} {C : List Int32} (hi : i < 14) (hc : i ≠ c) : txA A c key C t (66 + 2 * i) = A (66 + 2 * i) ∧ txA A c key C t (66 + 2 * i + 1) = A (66 + 2 * i + 1) := by
  constructor
  · simp only [txA, upd, cpC]
    rw [if_neg (by omega), if_neg (by omega), if_neg (by omega), if_neg (by omega)]
  · simp only [txA, upd, cpC]
    rw [if_neg (by omega), if_neg (by omega), if_neg (by omega), if_neg (by omega)]
theorem txA_c {A : Nat → Int32} {c key t : Nat} {C : List Int32} (hc : c < 14) : txA A c key C t (66 + 2 * c) = nI (1000 * key + C.length) ∧ txA A c key C t (66 + 2 * c + 1) = nI t := by
  constructor
  · simp only [txA, upd, cpC]
    rw [if_neg (by omega), if_neg (by omega), if_neg (by omega), if_pos trivial]
  · simp only [txA, upd, cpC]
    rw [if_neg (by omega), if_neg (by omega), if_pos trivial]
theorem txA_s {A : Nat → Int32} {c key t i j : Nat} {C : List Int32} (hC : C.length ≤ 96) (hc : c < 14) (hi : i ≠ c) (hj : j < 96) : txA A c key C t (94 + 96 * i + j) = A (94 + 96 * i + j) := by
  simp only [txA, upd, cpC]
  rw [if_neg (by omega), if_neg (by omega), if_neg (by omega), if_neg (by omega)]
theorem txA_sc {A : Nat → Int32} {c key t j : Nat} {C : List Int32} (hj : j < C.length) : txA A c key C t (94 + 96 * c + j) = C.getD j 0 := by
  simp only [txA, upd, cpC]
  rw [if_neg (by omega), if_pos (by omega), show 94 + 96 * c + j - (94 + 96 * c) = j by omega]
theorem txA_hi {A : Nat → Int32} {c key t j : Nat} {C : List Int32} (hC : C.length ≤ 96) (hc : c < 14) (hj : 1438 ≤ j) : txA A c key C t j = A j := by
  simp only [txA, upd, cpC]
  rw [if_neg (by omega), if_neg (by omega), if_neg (by omega), if_neg (by omega)]
theorem lastK_ext {A B : Nat → Int32} {key : Int32} : ∀ n, (∀ i, i < n → B (66 + 2 * i) = A (66 + 2 * i)) → lastK B key n = lastK A key n
  | 0, _ => rfl
  | n + 1, h => by
    simp only [lastK]
    rw [h n (Nat.lt_succ_self n), lastK_ext n (fun i hi => h i (by omega))]
theorem getD_enc {l : List Int32} {j : Nat} (hj : j < l.length) : (l.map enc).getD j 0 = enc (l.getD j 0) := by
  rw [List.getD_eq_getElem?_getD, List.getD_eq_getElem?_getD, List.getElem?_map, List.getElem?_eq_getElem hj]
  rfl
theorem txi_new {S Sn : Sg} {m M : Mem} {x c key t : Nat} {A : Nat → Int32} {l : List Int32} (h : TxI (x + 110) S m (x + 1) A c) (lS : x + 110 ≤ S.1) (hc : c < 14) (hN : NwT S Sn l.length) (hk : key < 3) (hb : Bk key l) (hl : l.length ≤ 96) (e0 : M S.1 0 = nI key) (e1 : M S.1 1 = nI t) (es : ∀ j, j < l.length → M (S.1 + 1) j = l.getD j 0) (e6 : M (x + 1 + 5) = upd (m (x + 1 + 5)) key (nI c)) (ep : ∀ a, x + 110 ≤ a → a < S.1 → M a = m a) : TxI (x + 110) (Sn.1, Sn.2.1, r_up Sn.2.2 (x + 1 + 4) c (some S.1)) M (x + 1) (txA A c key (l.map enc) t) (c + 1) := by
  obtain ⟨h1, h2, h3, h4, h6⟩ := h
  have hC : (l.map enc).length ≤ 96 := by rw [List.length_map]; exact hl
  have rN : ∀ i, i ≠ c → r_up Sn.2.2 (x + 1 + 4) c (some S.1) (x + 1 + 4) i = S.2.2 (x + 1 + 4) i := fun i hi => by
    simp only [r_up]
    rw [if_neg (fun z => hi z.2), nwt_r hN (by omega)]
  have rC : r_up Sn.2.2 (x + 1 + 4) c (some S.1) (x + 1 + 4) c = some S.1 := by
    simp only [r_up]
    rw [if_pos ⟨trivial, trivial⟩]
  have kd : ∀ i a z, Kd S i a z → Kd (Sn.1, Sn.2.1, r_up Sn.2.2 (x + 1 + 4) c (some S.1)) i a z := fun i a z g => (nwt_kd hN g : Kd Sn i a z)
  refine ⟨by omega, txA_5, fun i hi p hp => ?_, fun i hi => ?_, fun k hk3 => ?_⟩
  · by_cases e : i = c
    · subst e
      have hp' : some S.1 = some p := rC.symm.trans hp
      cases hp'
      exact hN.2.1
    · exact kd _ _ _ (h3 i hi p ((rN i e).symm.trans hp))
  · by_cases e : i = c
    · subst e
      refine ⟨S.1, key, l, lS, rC, ⟨hN.2.1, ?_, hN.2.2.1, by omega⟩, hk, hb, hl, e0, ?_, es, ?_, fun j hj => ?_⟩
      · show r_up Sn.2.2 (x + 1 + 4) i (some S.1) S.1 2 = _
        rw [r_up_ne (by omega)]
        exact hN.2.2.2.1
      · rw [(txA_c hc).2]; exact e1
      · rw [(txA_c hc).1, List.length_map]
      · rw [txA_sc (by rw [List.length_map]; exact hj), getD_enc hj]
    · obtain ⟨p, ky, l', hp, o1, o2, o3, o4, o5, o6, o7, o8, o9, o10⟩ := h4 i (by omega)
      refine ⟨p, ky, l', hp, (rN i e).trans o1, ⟨kd _ _ _ o2.1, ?_, kd _ _ _ o2.2.2.1, o2.2.2.2⟩, o3, o4, o5, by rw [ep p hp o2.1.1]; exact o6, ?_, fun j hj => by rw [ep (p + 1) (by omega) o2.2.2.1.1]; exact o8 j hj, ?_, fun j hj => ?_⟩
      · show r_up Sn.2.2 (x + 1 + 4) c (some S.1) p 2 = _
        rw [r_up_ne (by omega), nwt_r hN o2.1.1]
        exact o2.2.1
      · rw [ep p hp o2.1.1, (txA_k (by omega) e).2]; exact o7
      · rw [(txA_k (by omega) e).1]; exact o9
      · rw [txA_s hC hc e (by omega)]; exact o10 j hj
  · rw [e6]
    have ek : txA A c key (l.map enc) t (66 + 2 * c) / 1000 = nI key := by
      rw [(txA_c hc).1, List.length_map, show nI (1000 * key + l.length) / 1000 = nI ((1000 * key + l.length) / 1000) from pk_div (d := 1000) (by omega) (by decide) (by decide)]
      congr 1
      omega
    have el : lastK (txA A c key (l.map enc) t) (nI k) c = lastK A (nI k) c := lastK_ext c (fun i hi => (txA_k (by omega) (by omega)).1)
    unfold lastI
    simp only [lastK]
    rw [ek, el]
    by_cases e : k = key
    · subst e
      rw [if_pos rfl, upd_at]
    · rw [if_neg (fun z => e ((nI_eq (by omega) (by omega)).mp z).symm), upd_ne e]
      exact h6 k hk3
theorem txA_rg {A : Nat → Int32} {n h c key t : Nat} {C : List Int32} (g : Rg n h A) : Rg n h (txA A c key C t) := by
  obtain ⟨g1, g2, g3, g4⟩ := g
  refine ⟨g1, by rw [txA_lo (by decide) (by decide)]; exact g2, by rw [txA_lo (by decide) (by decide)]; exact g3, fun j hj => ?_⟩
  have j5 : j < 66 ∧ j ≠ 5 := by rcases hj with e | e <;> omega
  rw [txA_lo j5.1 j5.2]
  exact g4 j hj
theorem tvF_5 : ∀ j, j < 10 → j ≠ 5 → tvF j ≠ 13 := by decide
theorem tv_txt {m M : Mem} {x c : Nat} (e1 : M (x + 1) = upd (m (x + 1)) 13 (nI (c + 1))) (e : ∀ a, x + 1 < a → a < x + 18 → a ≠ x + 6 → M a = m a) {j : Nat} (hj : j < 66) : tv M (x + 1) j = if j = 5 then nI (c + 1) else tv m (x + 1) j := by
  simp only [tv]
  by_cases c0 : j < 10
  · rw [if_pos c0, if_pos c0, e1]
    by_cases c5 : j = 5
    · subst c5
      rw [if_pos rfl]
      exact upd_at _ _ _
    · rw [if_neg c5, upd_ne (tvF_5 j c0 c5)]
  · rw [if_neg c0, if_neg c0, if_neg (show ¬ j = 5 by omega), e (x + 1 + 1) (by omega) (by omega) (by omega), e (x + 1 + 2) (by omega) (by omega) (by omega)]
    by_cases c1 : j < 26
    · by_cases c2 : j < 18
      · rw [if_pos c2, if_pos c2]
      · rw [if_neg c2, if_neg c2, if_pos c1, if_pos c1]
    · rw [if_neg (show ¬ j < 18 by omega), if_neg (show ¬ j < 18 by omega), if_neg c1, if_neg c1, e (x + 1 + 9 + (j - 26) / 5) (by omega) (by omega) (by omega)]
theorem ivT_0 {m M : Mem} {x : Nat} (h : IvT m x) (e1 : M (x + 52) 1 = 0) (e2 : M (x + 87) 7 = 0) (e94 : M (x + 94) = m (x + 94)) (e95 : M (x + 95) = m (x + 95)) : IvT M x :=
  ⟨⟨0, by omega, e1, e2, fun j hj => absurd hj (Nat.not_lt_zero j)⟩, by rw [e94]; exact h.2.1, by rw [e95]; exact h.2.2⟩
set_option maxHeartbeats 1000000 in
theorem st_text {X : Xb} {S : Sg} {m : Mem} {x : Nat} (hI : Inv S m x) : CStep 218 2 99 4 fX6_text fX7_text X [] S m x := by
  obtain ⟨n, h, c, q⟩ := hI.2.1
  have n8 := q.2.2.1.1
  have T := q.2.2.2.2
  have hT := hI.2.2.2.1
  obtain ⟨⟨l, l1, l2, l3, l4⟩, k1, k2⟩ := hI.2.2.2.1
  have lS := hI.1.2.2
  have e13 : m (x + 1) 13 = nI c := tw3 q (j := 5) (by decide) |>.trans T.2.1
  have hZ := hI.2.2.2.2.2.2.2
  refine (ok_X6_text (X := X) (S := S) (mi := m) (x := x) (c := c) (len := l) (b := m (x + 53)) hI.1.1 ⟨rfl, l2⟩ l1 e13 T.1).post (fun r S1 m1 hp => ?_)
  rcases hp with ⟨ft, g1, rfl, rfl, g4, g5⟩ | ⟨key, P, Sn, g1, g2, g3, g4, g5, g6, g7, g8, g9⟩
  · rw [rdT_c l1 l4] at g1
    have k7 := ok_X7_text (X := X) (mi := m1) (o := x + 87) (c := c) (len := l) (A := m (x + 88)) (b := m (x + 93)) hI.1.2.1 ⟨g5 _ (by omega) (by omega), by rw [g5 _ (by omega) (by omega)]; exact l3⟩ l1 (fun j hj => by rw [g5 _ (by omega) (by omega)]; exact k1 j hj) (fun j hj => by rw [g5 _ (by omega) (by omega)]; exact k2 j hj) (g5 _ (by omega) (by omega)) T.2.1 T.1
    refine ⟨_, rfl, hI.1.1.1, hI.1.2.1.1, k7.post (fun r2 S2 m2 hq => ?_)⟩
    obtain ⟨rfl, f7, ⟨fA, fB⟩, hq⟩ := hq
    rcases rd_eq (b := m (x + 93)) l1 (m1 (x + 87) 11) (m1 (x + 87 + 11)) with ⟨f, w1, w2⟩ | ⟨ky, P', w1, w2⟩
    · have ef : ft = f := Sum.inl.inj (g1.symm.trans w1)
      subst ef
      rcases hq with ⟨f', v1, v2, v3⟩ | ⟨ky', C, t, v1, _⟩
      · have ef : f' = ft := Sum.inl.inj (v1.symm.trans w2)
        subst ef
        have f88 : m2 (x + 88) = m (x + 88) := v3
        have fa : ∀ a, a ≠ x + 52 ∧ a ≠ x + 54 ∧ a ≠ x + 87 ∧ a ≠ x + 96 ∧ a ≠ x + 97 ∧ a ≠ x + 98 → m2 a = m a := fun a g => by
          by_cases e : a = x + 88
          · rw [e, f88]
          · exact (fA a (by omega) (by omega) (by omega) (by omega) (by omega)).trans (g5 a (by omega) (by omega))
        refine ⟨v2, ?_, by omega⟩
        exact inv_T hI (ivT_0 hT (by rw [fA _ (by omega) (by omega) (by omega) (by omega) (by omega)]; exact g4) f7 (fa _ (by omega)) (fa _ (by omega))) (fun a h1 h2 h3 h4 h5 h6 h7 h8 => fa a (by omega)) (by rw [fB 3 (by omega), g5 _ (by omega) (by omega)]) (by rw [fB 33 (by omega), g5 _ (by omega) (by omega)])
      · rw [w2] at v1; cases v1
    · rw [g1] at w1; cases w1
  · rw [rdT_c l1 l4] at g1
    obtain ⟨b1, b2, b3⟩ := rdT_bk l1 g1
    have sN : SgX x S Sn := ⟨by have := g4.1; omega, fun i a z hk => nwt_kd g4 hk, fun a ha _ _ _ => nwt_r g4 ha⟩
    rcases rd_eq (b := m (x + 93)) l1 (m1 (x + 87) 11) (m1 (x + 87 + 11)) with ⟨f, w1, w2⟩ | ⟨ky, P', w1, w2⟩
    · rw [g1] at w1; cases w1
    · have ew : (key, P) = (ky, P') := Sum.inr.inj (g1.symm.trans w1)
      cases ew
      rcases g9 with ⟨c14, rfl, rfl, g10⟩ | ⟨c14, rfl, rfl, g10, g11, g12⟩
      · have i1' := sN.iv hI.1
        have k7 := ok_X7_text (X := X) (mi := m1) (o := x + 87) (c := c) (len := l) (A := m (x + 88)) (b := m (x + 93)) i1'.2.1 ⟨g10 _ (by omega) (by omega) (by omega), by rw [g10 _ (by omega) (by omega) (by omega)]; exact l3⟩ l1 (fun j hj => by rw [g10 _ (by omega) (by omega) (by omega)]; exact k1 j hj) (fun j hj => by rw [g10 _ (by omega) (by omega) (by omega)]; exact k2 j hj) (g10 _ (by omega) (by omega) (by omega)) T.2.1 T.1
        refine ⟨_, rfl, i1'.1.1, i1'.2.1.1, k7.post (fun r2 S2 m2 hq => ?_)⟩
        obtain ⟨rfl, f7, ⟨fA, fB⟩, hq⟩ := hq
        rcases hq with ⟨f', v1, _⟩ | ⟨ky', C, t, v1, _, _, ⟨_, v2, v3⟩ | ⟨v2, _⟩⟩
        · rw [w2] at v1; cases v1
        · have f88 : m2 (x + 88) = m (x + 88) := v3
          have fa : ∀ a, a < S.1 ∧ a ≠ x + 52 ∧ a ≠ x + 54 ∧ a ≠ x + 87 ∧ a ≠ x + 96 ∧ a ≠ x + 97 ∧ a ≠ x + 98 → m2 a = m a := fun a g => by
            by_cases e : a = x + 88
            · rw [e, f88]
            · exact (fA a (by omega) (by omega) (by omega) (by omega) (by omega)).trans (g10 a (by omega) (by omega) (by omega))
          refine ⟨v2, ?_, by have := g4.1; omega⟩
          refine inv_N hI sN (nwt_r g4 (by omega)) (ivT_0 hT (by rw [fA _ (by omega) (by omega) (by omega) (by omega) (by omega)]; exact g8) f7 (fa _ (by omega)) (fa _ (by omega))) ⟨n, h, c, ?_⟩ (fun j hj => by rw [f88, fa (x + 89) (by omega)]; exact hZ j hj) (fun a g => fa a (by omega)) (by rw [fB 3 (by omega), g10 _ (by omega) (by omega) (by omega)]) (by rw [fB 33 (by omega), g10 _ (by omega) (by omega) (by omega)])
          rw [f88]
          exact sN.q (nwt_r g4 (by omega)) (q.fr2 (fun a h1 h2 => fa a (by omega)) (fun a h1 h2 => fa a (by omega)))
        · omega
      · have sR : SgX x S (Sn.1, Sn.2.1, r_up Sn.2.2 (x + 1 + 4) c (some S.1)) := ⟨sN.1, sN.2.1, fun a ha h5 h22 h39 => by
          show r_up Sn.2.2 (x + 1 + 4) c (some S.1) a = _
          rw [r_up_ne (by omega)]
          exact nwt_r g4 ha⟩
        have s39 : r_up Sn.2.2 (x + 1 + 4) c (some S.1) (x + 39) = S.2.2 (x + 39) := by
          rw [r_up_ne (by omega)]
          exact nwt_r g4 (by omega)
        have i1' := sR.iv hI.1
        have k7 := ok_X7_text (X := X) (mi := m1) (o := x + 87) (c := c) (len := l) (A := m (x + 88)) (b := m (x + 93)) i1'.2.1 ⟨g12 _ (by omega) (by omega) (by omega) (by omega) (by omega), by rw [g12 _ (by omega) (by omega) (by omega) (by omega) (by omega)]; exact l3⟩ l1 (fun j hj => by rw [g12 _ (by omega) (by omega) (by omega) (by omega) (by omega)]; exact k1 j hj) (fun j hj => by rw [g12 _ (by omega) (by omega) (by omega) (by omega) (by omega)]; exact k2 j hj) (g12 _ (by omega) (by omega) (by omega) (by omega) (by omega)) T.2.1 T.1
        refine ⟨_, rfl, i1'.1.1, i1'.2.1.1, k7.post (fun r2 S2 m2 hq => ?_)⟩
        obtain ⟨rfl, f7, ⟨fA, fB⟩, hq⟩ := hq
        rcases hq with ⟨f', v1, _⟩ | ⟨ky', C, t, v1, _, _, ⟨v2, _⟩ | ⟨_, v2, v3⟩⟩
        · rw [w2] at v1; cases v1
        · omega
        · have ew : (ky', C, t) = (key, P.2.2.map enc, P.2.1.2.2) := Sum.inr.inj (v1.symm.trans w2)
          cases ew
          have f88 : m2 (x + 88) = txA (m (x + 88)) c key (P.2.2.map enc) P.2.1.2.2 := v3
          have fo : ∀ a, a ≠ x + 87 ∧ a ≠ x + 88 ∧ a ≠ x + 96 ∧ a ≠ x + 97 ∧ a ≠ x + 98 → m2 a = m1 a := fun a g => fA a (by omega) (by omega) (by omega) (by omega) (by omega)
          have fa : ∀ a, a < S.1 ∧ a ≠ x + 1 ∧ a ≠ x + 6 ∧ a ≠ x + 52 ∧ a ≠ x + 54 ∧ a ≠ x + 87 ∧ a ≠ x + 88 ∧ a ≠ x + 96 ∧ a ≠ x + 97 ∧ a ≠ x + 98 → m2 a = m a := fun a g => (fo a (by omega)).trans (g12 a (by omega) (by omega) (by omega) (by omega) (by omega))
          have hC : (P.2.2.map enc).length ≤ 96 := by rw [List.length_map]; exact b3
          refine ⟨v2, ?_, by show Sn.1 ≤ S.1 + 2; have := g4.1; omega⟩
          refine inv_N hI sR s39 (ivT_0 hT (by rw [fo _ (by omega)]; exact g8) f7 (fa _ (by omega)) (fa _ (by omega))) ⟨n, h, c + 1, ?_⟩ (fun j hj => by rw [f88, fa (x + 89) (by omega), txA_hi hC c14 hj]; exact hZ j hj) fa (by rw [fB 3 (by omega), g12 _ (by omega) (by omega) (by omega) (by omega) (by omega)]) (by rw [fB 33 (by omega), g12 _ (by omega) (by omega) (by omega) (by omega) (by omega)])
          rw [f88]
          refine ⟨fun j hj => ?_, by rw [txA_lo (by decide) (by decide)]; exact q.2.1, txA_rg q.2.2.1, q.2.2.2.1, txi_new T lS c14 g4 b1 b2 b3 (by rw [fo _ (by omega)]; exact g5) (by rw [fo _ (by omega)]; exact g6) (fun j hj => by rw [fo _ (by omega)]; exact g7 j hj) (by rw [fo _ (by omega)]; exact g11) (fun a h1 h2 => fa a (by omega))⟩
          rw [tv_txt (m := m) (by rw [fo _ (by omega)]; exact g10) (fun a h1 h2 h3 => fa a (by omega)) (by omega)]
          by_cases e : j = 5
          · rw [if_pos e, e, txA_5]
          · rw [if_neg e, txA_lo (by omega) e]
            exact q.1 j hj
