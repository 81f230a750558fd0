/-! the parsers side by side: a piece -/
theorem sim_5 {b : Nat → Int32} {len key fu : Nat} (hk : key < 3) (i0 : Sim b len key fu 0) (i5 : Sim b len key fu 5) : Sim b len key (fu + 1) 5 := by
  intro P G W j td f hmu hE _ hW _
  rw [par_5, pieceF]
  have hS := hE.1
  have tp := tr_part (key := key) hS.1 hE.2.1 hk
  by_cases c2 : P.1.2.2 = 2
  · rw [if_pos c2]
    exact sim_num hk hE hW c2
  · rw [if_neg c2]
    by_cases c1 : P.1.2.2 = 1
    · rw [if_pos c1]
      exact sim_name hk hE hW c1
    · rw [if_neg c1]
      have nt : ¬ tpB key G = true := fun g => (tp.mp g).elim (fun q => c2 q.1) (fun q => c1 q.1)
      rcases tr_sgn hS.1 (sr_lt hS) with ⟨s1, s2, s3, s4⟩ | ⟨s1, s2, s3⟩
      · by_cases c33 : sgn b len P = 33
        · rw [if_pos c33]
          exact sim_not i5 hmu hE hW s1 (by rw [s4, ← s3, c33])
        · rw [if_neg c33]
          by_cases c40 : sgn b len P = 40
          · rw [if_pos c40]
            exact sim_open i0 hmu hE hW s1 (by rw [s4, ← s3, c40])
          · rw [if_neg c40]
            exact sim_bad hE (fun g => c33 (by rw [s3, ← s4]; exact g.2.1)) (fun g => c40 (by rw [s3, ← s4]; exact g.2.1)) nt
      · rw [if_neg (by rw [s3]; decide), if_neg (by rw [s3]; decide)]
        exact sim_bad hE (fun g => s2 g.1) (fun g => s2 g.1) nt
