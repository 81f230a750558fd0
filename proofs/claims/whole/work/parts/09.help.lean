/-! shorter rows: exact contracts, counters as nI, tests of booleans -/
def b2i (p : Prop) [Decidable p] : Int32 := if p then 1 else 0
theorem b2i_t {p : Prop} [Decidable p] (h : p) : b2i p = 1 := if_pos h
theorem b2i_f {p : Prop} [Decidable p] (h : ¬ p) : b2i p = 0 := if_neg h
theorem b2i_eq0 {p : Prop} [Decidable p] : b2i p = 0 ↔ ¬ p := by unfold b2i; split <;> simp_all
theorem b2i_eq1 {p : Prop} [Decidable p] : b2i p = 1 ↔ p := by unfold b2i; split <;> simp_all
theorem b2i_z {p : Prop} [Decidable p] : narrow .boolean (.int (b2i p)) = .int (b2i p) := by unfold b2i; split <;> decide
theorem b2i_congr {p q : Prop} [Decidable p] [Decidable q] (h : p ↔ q) : b2i p = b2i q := by unfold b2i; simp [h]
theorem nI_lit (n : Nat) : (OfNat.ofNat n : Int32) = nI n := rfl
theorem nI_mul (a b : Nat) : nI a * nI b = nI (a * b) := by
  unfold nI
  exact (Int32.ofNat_mul a b).symm
abbrev pI (x : Int32) (S : Sg) (mi : Mem) : Pt3 := fun r S' mi' => r = some (.int x) ∧ S' = S ∧ mi' = mi
abbrev pV (S : Sg) (mi : Mem) : Pt3 := fun r S' mi' => r = none ∧ S' = S ∧ mi' = mi
abbrev OkI (d : Nat) (fr : Fr) (X : Xb) (av : List Value) (S : Sg) (mi : Mem) (x : Int32) (mi2 : Mem) : Prop := Ok d 0 0 fr X av S mi (pI x S mi2)
abbrev OkV (d : Nat) (fr : Fr) (X : Xb) (av : List Value) (S : Sg) (mi : Mem) (mi2 : Mem) : Prop := Ok d 0 0 fr X av S mi (pV S mi2)
section MWX
variable {X : Xb} {fr : Fr} {R : Room} {kc sl pc : Nat} {L : List (Option Value)} {st st0 : List Value} {S : Sg} {mi : Mem} {Q : Qt}
theorem mw_cVI {d n ci i z idx : Nat} {g : Fr} {As : List Value} {x : Int32} {mi2 : Mem} (hd : decode fr.2.1 pc = .ok (.invokevirtual idx, 3)) (hl : Cond.methodLink fr.1.cls idx g.1 ∈ TW) (hm : MFV g n ci) (hok : OkI d g X (.ref (X.1 + i) :: As) S mi x mi2) (hk : Kd S i ci z) (hn : As.length = n) (hst : st0 = As.reverse ++ .ref (X.1 + i) :: st) (hr : (st.map fun v => v.category).sum ≤ 8) (hR : d + 1 ≤ R.frames ∧ 40 + 40 * d ≤ R.locals) (hc : kc ≤ R.cells ∧ sl ≤ R.slots)
    (kk : MW X fr R kc sl (pc + 3) L (.int x :: st) S mi2 Q) : MW X fr R kc sl pc L st0 S mi Q :=
  mw_callV hd hl hm hok hk hn hst hr hR hc (fun r S' mi' h => by obtain ⟨rfl, rfl, rfl⟩ := h; exact kk)
theorem mw_cVV {d n ci i z idx : Nat} {g : Fr} {As : List Value} {mi2 : Mem} (hd : decode fr.2.1 pc = .ok (.invokevirtual idx, 3)) (hl : Cond.methodLink fr.1.cls idx g.1 ∈ TW) (hm : MFV g n ci) (hok : OkV d g X (.ref (X.1 + i) :: As) S mi mi2) (hk : Kd S i ci z) (hn : As.length = n) (hst : st0 = As.reverse ++ .ref (X.1 + i) :: st) (hr : (st.map fun v => v.category).sum ≤ 8) (hR : d + 1 ≤ R.frames ∧ 40 + 40 * d ≤ R.locals) (hc : kc ≤ R.cells ∧ sl ≤ R.slots)
    (kk : MW X fr R kc sl (pc + 3) L st S mi2 Q) : MW X fr R kc sl pc L st0 S mi Q :=
  mw_callV hd hl hm hok hk hn hst hr hR hc (fun r S' mi' h => by obtain ⟨rfl, rfl, rfl⟩ := h; exact kk)
theorem mw_cSI {d n idx : Nat} {g : Fr} {As : List Value} {x : Int32} {mi2 : Mem} (hd : decode fr.2.1 pc = .ok (.invokestatic idx, 3)) (hl : Cond.methodLink fr.1.cls idx g.1 ∈ TW) (hm : MFS g n) (hok : OkI d g X As S mi x mi2) (hn : As.length = n) (hst : st0 = As.reverse ++ st) (hr : (st.map fun v => v.category).sum ≤ 8) (hR : d + 1 ≤ R.frames ∧ 40 + 40 * d ≤ R.locals) (hc : kc ≤ R.cells ∧ sl ≤ R.slots)
    (kk : MW X fr R kc sl (pc + 3) L (.int x :: st) S mi2 Q) : MW X fr R kc sl pc L st0 S mi Q :=
  mw_callS hd hl hm hok hn hst hr hR hc (fun r S' mi' h => by obtain ⟨rfl, rfl, rfl⟩ := h; exact kk)
theorem mw_cSV {d n idx : Nat} {g : Fr} {As : List Value} {mi2 : Mem} (hd : decode fr.2.1 pc = .ok (.invokestatic idx, 3)) (hl : Cond.methodLink fr.1.cls idx g.1 ∈ TW) (hm : MFS g n) (hok : OkV d g X As S mi mi2) (hn : As.length = n) (hst : st0 = As.reverse ++ st) (hr : (st.map fun v => v.category).sum ≤ 8) (hR : d + 1 ≤ R.frames ∧ 40 + 40 * d ≤ R.locals) (hc : kc ≤ R.cells ∧ sl ≤ R.slots)
    (kk : MW X fr R kc sl (pc + 3) L st S mi2 Q) : MW X fr R kc sl pc L st0 S mi Q :=
  mw_callS hd hl hm hok hn hst hr hR hc (fun r S' mi' h => by obtain ⟨rfl, rfl, rfl⟩ := h; exact kk)
theorem mw_cSNI {d n idx : Nat} {g : Fr} {host : String} {As : List Value} {x : Int32} {mi2 : Mem} (hd : decode fr.2.1 pc = .ok (.invokestatic idx, 3)) (hl : Cond.methodLinkNest fr.1.cls idx g.1 host ∈ nestW) (hm : MFS g n) (hok : OkI d g X As S mi x mi2) (hn : As.length = n) (hst : st0 = As.reverse ++ st) (hr : (st.map fun v => v.category).sum ≤ 8) (hR : d + 1 ≤ R.frames ∧ 40 + 40 * d ≤ R.locals) (hc : kc ≤ R.cells ∧ sl ≤ R.slots)
    (kk : MW X fr R kc sl (pc + 3) L (.int x :: st) S mi2 Q) : MW X fr R kc sl pc L st0 S mi Q :=
  mw_callSN hd hl hm hok hn hst hr hR hc (fun r S' mi' h => by obtain ⟨rfl, rfl, rfl⟩ := h; exact kk)
theorem mw_ialdK {i z k : Nat} {j : Int32} (hd : decode fr.2.1 pc = .ok (.iaload, 1)) (hk : Kd S i 8 z) (hj : j = nI k) (hlt : k < z) (hz : z < 2 ^ 31) (kk : MW X fr R kc sl (pc + 1) L (.int (mi i k) :: st) S mi Q) : MW X fr R kc sl pc L (.int j :: .ref (X.1 + i) :: st) S mi Q := by
  subst hj
  refine mw_iald hd hk (vp_in_nI hlt hz) ?_
  rw [nI_clamp (by omega)]; exact kk
theorem mw_iastK {i z k : Nat} {j v : Int32} (hd : decode fr.2.1 pc = .ok (.iastore, 1)) (hk : Kd S i 8 z) (hj : j = nI k) (hlt : k < z) (hz : z < 2 ^ 31) (kk : MW X fr R kc sl (pc + 1) L st S (m_up mi i k v) Q) : MW X fr R kc sl pc L (.int v :: .int j :: .ref (X.1 + i) :: st) S mi Q := by
  subst hj
  refine mw_iast hd hk (vp_in_nI hlt hz) ?_
  rw [nI_clamp (by omega)]; exact kk
theorem mw_zaldK {i z k : Nat} {j : Int32} (hd : decode fr.2.1 pc = .ok (.baload, 1)) (hk : Kd S i 9 z) (hj : j = nI k) (hlt : k < z) (hz : z < 2 ^ 31) (kk : MW X fr R kc sl (pc + 1) L (.int (mi i k) :: st) S mi Q) : MW X fr R kc sl pc L (.int j :: .ref (X.1 + i) :: st) S mi Q := by
  subst hj
  refine mw_zald hd hk (vp_in_nI hlt hz) ?_
  rw [nI_clamp (by omega)]; exact kk
theorem mw_zastK {i z k : Nat} {j v : Int32} (hd : decode fr.2.1 pc = .ok (.bastore, 1)) (hk : Kd S i 9 z) (hj : j = nI k) (hlt : k < z) (hz : z < 2 ^ 31) (hv : narrow .boolean (.int v) = .int v) (kk : MW X fr R kc sl (pc + 1) L st S (m_up mi i k v) Q) : MW X fr R kc sl pc L (.int v :: .int j :: .ref (X.1 + i) :: st) S mi Q := by
  subst hj
  refine mw_zast hd hk (vp_in_nI hlt hz) hv ?_
  rw [nI_clamp (by omega)]; exact kk
theorem mw_caldK {i z k : Nat} {j : Int32} (hd : decode fr.2.1 pc = .ok (.caload, 1)) (hk : Kd S i 10 z) (hj : j = nI k) (hlt : k < z) (hz : z < 2 ^ 31) (kk : MW X fr R kc sl (pc + 1) L (.int (mi i k) :: st) S mi Q) : MW X fr R kc sl pc L (.int j :: .ref (X.1 + i) :: st) S mi Q := by
  subst hj
  refine mw_cald hd hk (vp_in_nI hlt hz) ?_
  rw [nI_clamp (by omega)]; exact kk
theorem mw_aldK {i c0 z k a : Nat} {j : Int32} (hd : decode fr.2.1 pc = .ok (.aaload, 1)) (hk : Kd S i c0 z) (hc0 : c0 = 11 ∨ c0 = 12 ∨ c0 = 13 ∨ c0 = 14) (hj : j = nI k) (hlt : k < z) (hz : z < 2 ^ 31) (ha : S.2.2 i k = some a) (kk : MW X fr R kc sl (pc + 1) L (.ref (X.1 + a) :: st) S mi Q) : MW X fr R kc sl pc L (.int j :: .ref (X.1 + i) :: st) S mi Q := by
  subst hj
  exact mw_aldr hd hk hc0 (vp_in_nI hlt hz) (by rw [nI_clamp (by omega)]; exact ha) kk
theorem mw_iinc1 {i : Nat} {x : Int32} (hd : decode fr.2.1 pc = .ok (.iinc i 1, 3)) (hl : L[i]? = some (some (.int x))) (hi : i < fr.2.2.1) (k : MW X fr R kc sl (pc + 3) (L.set i (some (.int (x + 1)))) st S mi Q) : MW X fr R kc sl pc L st S mi Q := mw_iinc hd hl hi rfl k
theorem mw_iincK {i k : Nat} {x : Int32} (hd : decode fr.2.1 pc = .ok (.iinc i 1, 3)) (hl : L[i]? = some (some (.int x))) (hx : x = nI k) (hi : i < fr.2.2.1) (kk : MW X fr R kc sl (pc + 3) (L.set i (some (.int (nI (k + 1))))) st S mi Q) : MW X fr R kc sl pc L st S mi Q := by
  subst hx
  exact mw_iinc hd hl hi (nI_1 k) kk
theorem mw_if_eqB {p : Prop} [Decidable p] {off : Int} {tgt : Nat} (hd : decode fr.2.1 pc = .ok (.ifCond .eq off, 3)) (ht : (pc : Int) + off = (tgt : Int)) (kt : ¬ p → MW X fr R kc sl tgt L st S mi Q) (kf : p → MW X fr R kc sl (pc + 3) L st S mi Q) : MW X fr R kc sl pc L (.int (b2i p) :: st) S mi Q :=
  mw_if_eq hd ht (fun h => kt (b2i_eq0.mp h)) (fun h => kf (Classical.not_not.mp fun q => h (b2i_eq0.mpr q)))
theorem mw_if_neB {p : Prop} [Decidable p] {off : Int} {tgt : Nat} (hd : decode fr.2.1 pc = .ok (.ifCond .ne off, 3)) (ht : (pc : Int) + off = (tgt : Int)) (kt : p → MW X fr R kc sl tgt L st S mi Q) (kf : ¬ p → MW X fr R kc sl (pc + 3) L st S mi Q) : MW X fr R kc sl pc L (.int (b2i p) :: st) S mi Q :=
  mw_if_ne hd ht (fun h => kt (Classical.not_not.mp fun q => h (b2i_eq0.mpr q))) (fun h => kf (b2i_eq0.mp h))
theorem mw_bret {mc ms : Nat} {P : Pt3} {v : Int32} (hd : decode fr.2.1 pc = .ok (.ireturn, 1)) (hr : fr.2.2.2 = some .boolean) (hn : v = 0 ∨ v = 1) (h1 : kc ≤ mc) (h2 : sl ≤ ms) (hp : P (some (.int v)) S mi) : MW X fr R kc sl pc L [.int v] S mi (mQ X mc ms P) :=
  mw_zret hd hr (by rcases hn with rfl | rfl <;> decide) h1 h2 hp
end MWX
