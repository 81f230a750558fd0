section MWS
variable {X : Xb} {fr : Fr} {R : Room} {kc sl pc : Nat} {L : List (Option Value)} {st : List Value} {S : Sg} {mi : Mem} {Q : Qt}
theorem ne_toI {x c : Int32} {n : Int} (hc : c.toInt = n) (h : ¬ x = c) : x.toInt ≠ n := fun q => h (Int32.toInt_inj.mp (q.trans hc.symm))
theorem mw_ts1 {d lo hi : Int} {offs : Array Int} {len : Nat} {x : Int32} (hd : decode fr.2.1 pc = .ok (.tableswitch d lo hi offs, len)) (hsz : offs.size = (hi - lo + 1).toNat) (c : Int32) (tgt : Nat) (ht : tsTo pc d lo hi offs c = (tgt : Int)) (kt : x = c → MW X fr R kc sl tgt L st S mi Q) (kf : ¬ x = c → MW X fr R kc sl pc L (.int x :: st) S mi Q) : MW X fr R kc sl pc L (.int x :: st) S mi Q := by
  by_cases h : x = c
  · exact mw_tsw hd hsz tgt (by rw [h]; exact ht) (kt h)
  · exact kf h
theorem mw_ts0 {d lo hi : Int} {offs : Array Int} {len : Nat} {x : Int32} (hd : decode fr.2.1 pc = .ok (.tableswitch d lo hi offs, len)) (hsz : offs.size = (hi - lo + 1).toNat) (tgt : Nat) (ht : (pc : Int) + d = (tgt : Int)) (hx : x.toInt < lo ∨ hi < x.toInt) (kt : MW X fr R kc sl tgt L st S mi Q) : MW X fr R kc sl pc L (.int x :: st) S mi Q :=
  mw_tsw hd hsz tgt (by unfold tsTo; rw [if_pos hx]; exact ht) kt
theorem mw_ls1 {d : Int} {ps : Array (Int × Int)} {len : Nat} {x : Int32} (hd : decode fr.2.1 pc = .ok (.lookupswitch d ps, len)) (hp : (ps.toList.zip (ps.toList.drop 1)).all (fun (a, next) => a.1 < next.1) = true) (c : Int32) (tgt : Nat) (ht : (pc : Int) + Op.lookupswitch.offset ps.toList d c.toInt = (tgt : Int)) (kt : x = c → MW X fr R kc sl tgt L st S mi Q) (kf : ¬ x = c → MW X fr R kc sl pc L (.int x :: st) S mi Q) : MW X fr R kc sl pc L (.int x :: st) S mi Q := by
  by_cases h : x = c
  · exact mw_lsw hd hp tgt (by rw [h]; exact ht) (kt h)
  · exact kf h
theorem lsw_d (d v : Int) : ∀ (ps : List (Int × Int)), (∀ p ∈ ps, p.1 ≠ v) → Op.lookupswitch.offset ps d v = d
  | [], _ => rfl
  | p :: ps, h => by
    have h1 := h p List.mem_cons_self
    have ih := lsw_d d v ps (fun q hq => h q (List.mem_cons_of_mem _ hq))
    simp [Op.lookupswitch.offset, h1, ih]
theorem mw_ls0 {d : Int} {ps : Array (Int × Int)} {len : Nat} {x : Int32} (hd : decode fr.2.1 pc = .ok (.lookupswitch d ps, len)) (hp : (ps.toList.zip (ps.toList.drop 1)).all (fun (a, next) => a.1 < next.1) = true) (tgt : Nat) (ht : (pc : Int) + d = (tgt : Int)) (hx : ∀ p ∈ ps.toList, p.1 ≠ x.toInt) (kt : MW X fr R kc sl tgt L st S mi Q) : MW X fr R kc sl pc L (.int x :: st) S mi Q :=
  mw_lsw hd hp tgt (by rw [lsw_d _ _ _ hx]; exact ht) kt
end MWS
/-- a way back to a known place: fewer locals known, the rest the same -/
theorem MW.back {X : Xb} {fr : Fr} {R : Room} {kc sl pc : Nat} {L L' : List (Option Value)} {st st' : List Value} {S S' : Sg} {mi mi' : Mem} {Q : Qt} (k : MW X fr R kc sl pc L' st' S' mi' Q) (h : lsub L' L ∧ st = st' ∧ S = S' ∧ mi = mi') : MW X fr R kc sl pc L st S mi Q := by
  obtain ⟨h1, rfl, rfl, rfl⟩ := h
  exact MW.sub h1 k
theorem Ok.go {d mc ms : Nat} {fr : Fr} {X : Xb} {av : List Value} {S : Sg} {mi : Mem} {P : Pt3} (L0 : List (Option Value)) (hy : plainName fr.1.cls = true) (hc : ∀ v ∈ av, v.category = 1) (hn : av.length ≤ fr.2.2.1) (hL0 : lv0 av fr.2.2.1 = L0)
    (h : MW X fr (rmOf d mc ms) 0 0 0 L0 [] S mi (mQ X mc ms P)) : Ok d mc ms fr X av S mi P := Ok.of hy hc hn (by rw [hL0]; exact h)
theorem mw_istN {X : Xb} {fr : Fr} {R : Room} {kc sl pc : Nat} {L : List (Option Value)} {st : List Value} {S : Sg} {mi : Mem} {Q : Qt} {k : Fin 4} {x : Int32} (i : Nat) (hd : decode fr.2.1 pc = .ok (.istore_n k, 1)) (hk : (k : Nat) = i) (hi : i < fr.2.2.1) (kk : MW X fr R kc sl (pc + 1) (L.set i (some (.int x))) st S mi Q) : MW X fr R kc sl pc L (.int x :: st) S mi Q := by
  subst hk; exact mw_istore_n hd hi kk
theorem mw_astN {X : Xb} {fr : Fr} {R : Room} {kc sl pc : Nat} {L : List (Option Value)} {st : List Value} {S : Sg} {mi : Mem} {Q : Qt} {k : Fin 4} {x : Nat} (i : Nat) (hd : decode fr.2.1 pc = .ok (.astore_n k, 1)) (hk : (k : Nat) = i) (hi : i < fr.2.2.1) (kk : MW X fr R kc sl (pc + 1) (L.set i (some (.ref x))) st S mi Q) : MW X fr R kc sl pc L (.ref x :: st) S mi Q := by
  subst hk; exact mw_astore_n hd hi kk
theorem i_ge {k n : Nat} (h : k < n) (hn : n < 2 ^ 31) : ¬ (nI n ≤ nI k) := nI_ge h hn
theorem mw_dn {P : Nat → Prop} (N : Nat) (hend : P N) (hstep : ∀ k, k < N → P (k + 1) → P k) : P 0 := by
  have h : ∀ n k, n + k = N → P k := by
    intro n
    induction n with
    | zero => intro k hk; rw [show k = N by omega]; exact hend
    | succ n ih => intro k hk; exact hstep k (by omega) (ih (k + 1) (by omega))
  exact h N 0 (by omega)
def fld (g : Int32 → Nat → Int32) (z : Int32) : Nat → Int32
  | 0 => z
  | n + 1 => g (fld g z n) n
/-- a row of a cell as a whole -/
def m_row (mi : Mem) (q : Nat) (f : Nat → Int32) : Mem := fun a k => if a = q then f k else mi a k
theorem b2i_01 {p : Prop} [Decidable p] : b2i p = 0 ∨ b2i p = 1 := by unfold b2i; split <;> simp
section MWN
variable {X : Xb} {fr : Fr} {R : Room} {kc sl pc : Nat} {L : List (Option Value)} {st : List Value} {S : Sg} {mi : Mem} {Q : Qt}
theorem mw_astoreN {i : Nat} (hd : decode fr.2.1 pc = .ok (.astore i, 2)) (hi : i < fr.2.2.1) (k : MW X fr R kc sl (pc + 2) (L.set i (some .null)) st S mi Q) : MW X fr R kc sl pc L (.null :: st) S mi Q :=
  fun p l e s m args below meth c H locs ls C hS hP hL => lv_astoreN C.1 C.2.1 hd hL.2.1 hi rfl (fun ls' h => k p l e s m args below meth c H locs ls' C hS hP (Lv.store hL.1 hL.2.2 hi rfl h))
theorem mw_aloadN {i : Nat} (hd : decode fr.2.1 pc = .ok (.aload i, 2)) (hl : L[i]? = some (some .null)) (k : MW X fr R kc sl (pc + 2) L (.null :: st) S mi Q) : MW X fr R kc sl pc L st S mi Q :=
  fun p l e s m args below meth c H locs ls C hS hP hL => lv_aloadN C.1 C.2.1 hd (hL.at hl) (k p l e s m args below meth c H locs ls C hS hP hL)
end MWN
