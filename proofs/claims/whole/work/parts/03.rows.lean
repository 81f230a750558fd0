/-! What stays through a whole run (Fx), the judgement MW (W over the world as numbers), its rows, an instruction each. -/
def aoC : List String := [RX0, RX1, RX2, RX4]
def kaF : Nat → Value := fun j => .int (([-1, 0, 0, 1, 2, 0] : List Int32).getD j 0)
def Fx (X : Xb) (U : State) : Prop :=
  va_K X.2.1 vwCl (tysOf X.2.2.1) U ∧ (∀ w ∈ nestW, va_Nw w U) ∧ (∀ C ∈ aoC, va_AO C U) ∧ va_Z RX6 "KIND_ABOVE" "[I" (.ref X.2.2.2.1) (bA X) U U.heap ∧ va_T .int X.2.2.2.1 6 kaF (bA X) U U.heap ∧
  vk_S 6 sLen sByt X.2.2.2.2.1 X.2.2.2.2.2.1 (bA X) U U.heap ∧ (∀ i, i < 6 → vk_R RX3 (sIdx i) (sTx i) (X.2.2.2.2.1 i) U) ∧
  va_Z RJ0 "COMPACT_STRINGS" "Z" (.int 1) (bA X) U U.heap ∧ va_Zq RJ3 "SIOOBE_FORMATTER" "Ljava/util/function/BiFunction;" (bA X) U U.heap ∧ va_X X.2.2.2.2.2.2.1 X.2.2.2.2.2.2.2.1 X.2.2.2.2.2.2.2.2 U U.heap ∧ X.2.2.2.2.2.2.1 < X.1
theorem nestW_warm {s U : State} (hW : s.WarmedH U.vm) (h : ∀ w ∈ nestW, va_Nw w s) : ∀ w ∈ nestW, va_Nw w U := by
  intro w hw
  have h1 := h w hw
  simp only [nestW, List.mem_cons, List.not_mem_nil, or_false] at hw
  rcases hw with rfl | rfl | rfl | rfl | rfl | rfl | rfl | rfl | rfl | rfl | rfl <;> first | exact va_Nw.warmM hW h1 | exact va_Nw.warmF hW h1
theorem Fx.go {X : Xb} {s U : State} (h : Fx X s) (hb : X.1 ≤ s.heap.size) (hW : s.WarmedH U.vm) (hk : ∀ q : Nat, q < s.heap.size → ¬ bA X q → U.heap[q]? = s.heap[q]?) : Fx X U := by
  obtain ⟨h1, h2, h3, h4, h5, h6, h7, h8, h9, h10, h11⟩ := h
  have ha := hW.alike
  refine ⟨va_K.moved ha h1, nestW_warm hW h2, fun C hC => va_AO.moved ha (h3 C hC), (va_Z.moved ha h4).kept hk, (va_T.moved ha h5).kept hk, (vk_S.moved ha h6).kept hk, fun i hi => vk_R.warm hW (h7 i hi), (va_Z.moved ha h8).kept hk, (va_Zq.moved ha h9).kept hk, ?_, h11⟩
  have hq : ¬ bA X X.2.2.2.2.2.2.1 := Nat.not_le.mpr h11
  exact (va_X.moved ha h10).kept (hk _ (by omega) hq)
/-- the method fr at its entry: the machine, its code, the tables' words, what stays -/
def Cx (fr : Fr) (X : Xb) (p : Program) (s : State) (m : MethodId) (args : Array Value) (meth : Method) (c : Code) : Prop :=
  p.tables.exec = Jvm.exec ∧ c.code = fr.2.1 ∧ c.maxLocals = fr.2.2.1 ∧ s.vm.findClass fr.1.cls = some m.cls ∧ (∀ w ∈ TW, w.before args s = true) ∧ meth.sig.returnType = fr.2.2.2 ∧ meth.locks = false ∧ meth.name = fr.1.name ∧ X.1 ≤ s.heap.size ∧ Fx X s
abbrev Qt : Type := List Frame → Array Value → State → State → Prop
def MW (X : Xb) (fr : Fr) (R : Room) (kc sl pc : Nat) (L : List (Option Value)) (st : List Value) (S : Sg) (mi : Mem) (Q : Qt) : Prop :=
  ∀ (p : Program) (l : Launch) (e : Env) (s : State) (m : MethodId) (args : Array Value) (below : List Frame) (meth : Method) (c : Code) (H : Heap) (locs : List Loc) (ls : Array Slot), Cx fr X p s m args meth c → va_S (bA X) s.heap H locs → Wp X S mi H → Lv ls fr.2.2.1 L → W p l e R s m args below meth c H locs kc sl (Q below args s) (F0 m pc ls st)
abbrev Pt3 : Type := Option Value → Sg → Mem → Prop
def Qc3 (X : Xb) (P : Pt3) : Array Value → State → Outcome → State → Prop := fun _ st oc t => (∃ (r : Option Value) (S' : Sg) (mi' : Mem), oc = .returned r ∧ P r S' mi' ∧ Wp X S' mi' t.heap) ∧ va_F (bA X) st t
def mQ (X : Xb) (mc ms : Nat) (P : Pt3) : Qt := fun below args s => MQ below (Qc3 X P) args s mc ms (bA X)
def rmOf (d mc ms : Nat) : Room := { frames := d, cells := mc, slots := ms, locals := 40 * d }
def Pre3 (X : Xb) (S : Sg) (mi : Mem) : State → Prop := fun U => Wp X S mi U.heap ∧ Fx X U
/-- THE CONTRACT: fr, called with av in the world S, mi, ends, its answer and the world behind it are of P; d frames, mc cells, ms slots -/
def Ok (d mc ms : Nat) (fr : Fr) (X : Xb) (av : List Value) (S : Sg) (mi : Mem) (P : Pt3) : Prop :=
  ∀ l : Launch, Met l fr.1 (.code fr.1 fr.2.1 fr.2.2.1 fr.2.2.2 :: TW) (rmOf d mc ms) (va_Pc av (Pre3 X S mi)) (Qc3 X P) mc ms (bA X)
abbrev lv0 (av : List Value) (n : Nat) : List (Option Value) := av.map some ++ List.replicate (n - av.length) none
theorem lg_sl1 : ∀ (av : List Value), (∀ v ∈ av, v.category = 1) → lg_sl av = av.map Slot.val
  | [], _ => rfl
  | v :: av, h => by
    have h1 : v.category = 1 := h v List.mem_cons_self
    have ih := lg_sl1 av (fun w hw => h w (List.mem_cons_of_mem _ hw))
    unfold lg_sl at ih ⊢
    rw [List.flatMap_cons, ih]
    simp [h1]
theorem lv_args1 : ∀ (av : List Value) (k : Nat), (∀ v ∈ av, v.category = 1) → ∀ (i : Nat) (v : Value), av[i]? = some v → (k + i, v) ∈ lv_args k av
  | [], _, _, i, v, h => by simp at h
  | a :: av, k, hc, i, v, h => by
    have h1 : a.category = 1 := hc a List.mem_cons_self
    have ih := lv_args1 av (k + 1) (fun w hw => hc w (List.mem_cons_of_mem _ hw))
    cases i with
    | zero =>
      simp only [List.getElem?_cons_zero, Option.some.injEq] at h
      subst h
      simp [lv_args]
    | succ n =>
      simp only [List.getElem?_cons_succ] at h
      have := ih n v h
      rw [show k + 1 + n = k + (n + 1) by omega] at this
      simp only [lv_args, h1]
      exact List.mem_cons_of_mem _ this
theorem Lv_entry {av : List Value} {n : Nat} (hc : ∀ v ∈ av, v.category = 1) (hn : av.length ≤ n) : Lv ((lg_sl av ++ List.replicate (n - (lg_sl av).length) Slot.unset).toArray) n (lv0 av n) := by
  have hlen : (lg_sl av).length = av.length := by rw [lg_sl1 av hc, List.length_map]
  have h0 := lv_entry av (n := n) (by rw [hlen]; exact hn)
  have key : ∀ (i : Nat) (v : Value), (lv0 av n)[i]? = some (some v) → av[i]? = some v := by
    intro i v h
    unfold lv0 at h
    by_cases hi : i < av.length
    · rw [List.getElem?_append_left (by simpa using hi), List.getElem?_map] at h
      rw [Option.map_eq_some_iff] at h
      obtain ⟨w, hw, e⟩ := h
      cases e; exact hw
    · rw [List.getElem?_append_right (by simpa using hi)] at h
      rw [List.getElem?_replicate] at h
      split at h <;> cases h
  refine ⟨by simp; omega, ⟨h0.1, h0.2.1, fun q hq => ?_⟩, fun i v h => hc v (List.mem_of_getElem? (key i v h))⟩
  obtain ⟨i, v⟩ := q
  have := lv_args1 av 0 hc i v (key i v (prs_mem.mp hq))
  rw [Nat.zero_add] at this
  exact h0.2.2 _ this
theorem Ok.of {d mc ms : Nat} {fr : Fr} {X : Xb} {av : List Value} {S : Sg} {mi : Mem} {P : Pt3} (hy : plainName fr.1.cls = true) (hc : ∀ v ∈ av, v.category = 1) (hn : av.length ≤ fr.2.2.1)
    (h : MW X fr (rmOf d mc ms) 0 0 0 (lv0 av fr.2.2.1) [] S mi (mQ X mc ms P)) : Ok d mc ms fr X av S mi P := by
  intro l
  refine Met.ofW (cc := fr.2.1) (maxL := fr.2.2.1) (ret := fr.2.2.2) hy rfl ?_
  intro p e s m args below meth c s₁ B hml hv
  obtain ⟨rfl, hW, hF⟩ := hv
  have hts := atoms_spec (ws := .code fr.1 fr.2.1 fr.2.2.1 fr.2.2.2 :: TW) B.pre
  rw [lg_entry_eq]
  exact h p l e s m av.toArray below meth c s.heap [] _ ⟨B.exec, B.bytes, hml, findClass_of_methodNamed B.named, fun w hw => hts w (List.mem_cons_of_mem _ hw), B.returns, B.notSynchronized, (name_of_methodNamed B.named B.method).1, by rw [hW.1]; exact Nat.le_add_right _ _, hF⟩ va_S.rf hW (Lv_entry hc hn)
theorem Ok.post {d mc ms : Nat} {fr : Fr} {X : Xb} {av : List Value} {S : Sg} {mi : Mem} {P P' : Pt3} (h : Ok d mc ms fr X av S mi P) (hp : ∀ r S' mi', P r S' mi' → P' r S' mi') : Ok d mc ms fr X av S mi P' := by
  intro l p e ha hc hk s m args below hf happ hpre hK
  obtain ⟨k, o, h1, h2, h3, ⟨⟨r, S', mi', e1, e2, e3⟩, hF⟩, hL⟩ := h l p e ha hc hk s m args below hf happ hpre hK
  exact ⟨k, o, h1, h2, h3, ⟨⟨r, S', mi', e1, hp _ _ _ e2, e3⟩, hF⟩, hL⟩
