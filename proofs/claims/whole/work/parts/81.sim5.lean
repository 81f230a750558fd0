/-! the parsers side by side: a number, a name -/
theorem sim_num {b : Nat → Int32} {len key f j : Nat} {P : Ps} {G : Gt} {W : List Int32} {td : Nat → Int32} (hk : key < 3) (hE : En b len f P G (notsR j ++ W)) (hW : topR 5 W) (c2 : P.1.2.2 = 2) : SimO b len key 5 j W td P f (if P.1.2.1 - P.1.1 ≤ 4 then (true, leafP b len P (numF b P.1.1 (P.1.2.1 - P.1.1))) else (false, P)) (enS P G (notsR j ++ W) td) := by
  have hS := hE.1
  have tp := tr_part (key := key) hS.1 hE.2.1 hk
  by_cases d : P.1.2.1 - P.1.1 ≤ 4
  · rw [if_pos d]
    have t2 : G.2.2.1 = 2 := by rw [hS.1.2.2.1, if_neg (fun g => absurd g.2 (by omega))]; exact c2
    refine sim_leaf hE hW (tp.mpr (Or.inl ⟨c2, d⟩)) ?_ (by omega) (by omega)
    obtain ⟨q, hq, e⟩ := num_in (b := b) (bg := P.1.1) (P.1.2.1 - P.1.1) d (fun k hk => srt2_in (hS.2.2.1 c2 (P.1.1 + k) (by omega) (by omega)))
    rw [tpV, if_pos t2, hS.1.2.2.2.2.1 c2 d, e]
    exact enc_num (Nat.lt_of_lt_of_le hq (Nat.pow_le_pow_right (n := 10) (by decide) d))
  · rw [if_neg d]
    refine sim_bad hE (fun g => ?_) (fun g => ?_) (fun g => ?_)
    · have := (tr_tok hS.1 (n := 3) (by decide) (by decide)).mp g.1; omega
    · have := (tr_tok hS.1 (n := 3) (by decide) (by decide)).mp g.1; omega
    · rcases tp.mp g with q | q
      · exact d q.2
      · have := q.1; omega
theorem sim_name {b : Nat → Int32} {len key f j : Nat} {P : Ps} {G : Gt} {W : List Int32} {td : Nat → Int32} (hk : key < 3) (hE : En b len f P G (notsR j ++ W)) (hW : topR 5 W) (c1 : P.1.2.2 = 1) : SimO b len key 5 j W td P f (if nmH b len key P < 0 then (false, P) else (true, leafP b len P (-1 - nmH b len key P))) (enS P G (notsR j ++ W) td) := by
  have hS := hE.1
  have tp := tr_part (key := key) hS.1 hE.2.1 hk
  by_cases d : nmH b len key P < 0
  · rw [if_pos d]
    refine sim_bad hE (fun g => ?_) (fun g => ?_) (fun g => ?_)
    · have := (tr_tok hS.1 (n := 3) (by decide) (by decide)).mp g.1; omega
    · have := (tr_tok hS.1 (n := 3) (by decide) (by decide)).mp g.1; omega
    · rcases tp.mp g with q | q
      · have := q.1; omega
      · exact q.2 d
  · rw [if_neg d]
    have t1 : G.2.2.1 = 1 := (tr_tok hS.1 (n := 1) (by decide) (by decide)).mpr c1
    have en : nmH b len key P = nmM (nI key) G.2.2.2.1 := by
      rw [hS.1.2.2.2.1 c1, nm_ix key hk]
      unfold nmH at d ⊢
      split
      · rfl
      · rename_i c
        rw [if_neg c] at d
        exact absurd (by decide) d
    refine sim_leaf hE hW (tp.mpr (Or.inr ⟨c1, d⟩)) ?_ (by omega) (by omega)
    rw [en] at d ⊢
    obtain ⟨k, k1, k2⟩ := nm_in hk _ d
    rw [tpV, if_neg (by omega), k2]
    exact enc_nm k k1
