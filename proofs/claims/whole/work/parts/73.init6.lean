/-! the constructor of the object -/
def ExtP (P : Nat → Prop) (S S' : Sg) : Prop := S.1 ≤ S'.1 ∧ (∀ a, a < S.1 → S'.2.1 a = S.2.1 a) ∧ ∀ a, a < S.1 → ¬ P a → S'.2.2 a = S.2.2 a
theorem ExtP.rf (P : Nat → Prop) (S : Sg) : ExtP P S S := ⟨Nat.le_refl _, fun _ _ => rfl, fun _ _ _ => rfl⟩
theorem ExtP.tr {P : Nat → Prop} {A B C : Sg} (h : ExtP P A B) (k : ExtP P B C) : ExtP P A C := ⟨Nat.le_trans h.1 k.1, fun a ha => (k.2.1 a (Nat.lt_of_lt_of_le ha h.1)).trans (h.2.1 a ha), fun a ha hq => (k.2.2 a (Nat.lt_of_lt_of_le ha h.1) hq).trans (h.2.2 a ha hq)⟩
theorem ExtP.of {P : Nat → Prop} {q : Nat} {A B : Sg} (h : Ext q A B) (hq : P q) : ExtP P A B := ⟨h.1, h.2.1, fun a ha hp => h.2.2 a ha (fun e => hp (by rw [e]; exact hq))⟩
theorem ExtP.new {P : Nat → Prop} {q c z : Nat} {U T : Sg} (h : Ext q (nwS U c z) T) (hq : U.1 = q) : ExtP P U T := ⟨Nat.le_trans (Nat.le_succ _) h.1, fun a ha => (h.2.1 a (Nat.lt_succ_of_lt ha)).trans (if_neg (Nat.ne_of_lt ha)), fun a ha _ => (h.2.2 a (Nat.lt_succ_of_lt ha) (by omega)).trans (by funext j; exact nw_r ha j)⟩
theorem ExtP.kd {P : Nat → Prop} {i c z : Nat} {A B : Sg} (h : ExtP P A B) (k : Kd A i c z) : Kd B i c z := ⟨Nat.lt_of_lt_of_le k.1 h.1, by rw [h.2.1 i k.1]; exact k.2⟩
theorem ExtP.tw {P : Nat → Prop} {A B : Sg} {t : Nat} (h : ExtP P A B) (k : TwA A t) (h0 : ¬ P t) (h3 : ¬ P (t + 3)) : TwA B t := by
  obtain ⟨k0, ⟨a1, b1⟩, ⟨a2, b2⟩, ⟨a3, b3⟩, ⟨a4, b4⟩, ⟨a5, b5⟩, ⟨a6, b6⟩, ⟨a7, b7⟩, ⟨a8, b8⟩, a9⟩ := k
  have e0 := h.2.2 t k0.1 h0
  have e3 := h.2.2 (t + 3) b3.1 h3
  exact ⟨h.kd k0, ⟨by rw [e0]; exact a1, h.kd b1⟩, ⟨by rw [e0]; exact a2, h.kd b2⟩, ⟨by rw [e0]; exact a3, h.kd b3⟩, ⟨by rw [e0]; exact a4, h.kd b4⟩, ⟨by rw [e0]; exact a5, h.kd b5⟩, ⟨by rw [e0]; exact a6, h.kd b6⟩, ⟨by rw [e0]; exact a7, h.kd b7⟩, ⟨by rw [e0]; exact a8, h.kd b8⟩, fun i hi => ⟨by rw [e3]; exact (a9 i hi).1, h.kd (a9 i hi).2⟩⟩
theorem ExtP.sh {P : Nat → Prop} {A B : Sg} {q : Nat} (h : ExtP P A B) (k : ShA A q) (h0 : ¬ P q) : ShA B q := ⟨h.kd k.1, by rw [h.2.2 q k.1.1 h0]; exact k.2.1, h.kd k.2.2⟩
theorem ExtP.sl {P : Nat → Prop} {A B : Sg} {q : Nat} (h : ExtP P A B) (k : SlA A q) (h0 : ¬ P q) (h2 : ¬ P (q + 2)) : SlA B q := ⟨h.kd k.1, ⟨by rw [h.2.2 q k.1.1 h0]; exact k.2.1.1, h.kd k.2.1.2⟩, by rw [h.2.2 q k.1.1 h0]; exact k.2.2.1, h.sh k.2.2.2 h2⟩
def row0 : Nat → Int32 := upd (upd (upd (fun _ => 0) 5 10) 7 50) 11 1
def TwI (S : Sg) (m : Mem) (t : Nat) : Prop := m t = row0 ∧ (∀ j, j < 8 → m (t + 1) j = nI (3 * j) ∧ m (t + 2) j = 5) ∧ (∀ j, j < 3 → m (t + 5) j = -1) ∧ ∀ i, i < 14 → S.2.2 (t + 4) i = none
theorem TwI.keep {U Z : Sg} {m n : Mem} {t : Nat} (hm : ∀ a, a < t + 6 → n a = m a) (hr : Z.2.2 (t + 4) = U.2.2 (t + 4)) (h : TwI U m t) : TwI Z n t := ⟨by rw [hm t (by omega)]; exact h.1, fun j hj => by rw [hm (t + 1) (by omega), hm (t + 2) (by omega)]; exact h.2.1 j hj, fun j hj => by rw [hm (t + 5) (by omega)]; exact h.2.2.1 j hj, fun i hi => by rw [hr]; exact h.2.2.2 i hi⟩
theorem nwM_0 (S : Sg) (mi : Mem) : nwM S mi S.1 = fun _ => 0 := by funext j; exact if_pos rfl
def AsP (S : Sg) (mi : Mem) (x : Nat) (S' : Sg) (m : Mem) : Prop := S'.1 = x + 87 ∧ AsA S' x ∧ (∀ a, a < x → S'.2.1 a = S.2.1 a ∧ S'.2.2 a = S.2.2 a) ∧ (∀ a, a < x → m a = mi a) ∧ m x = (fun _ => 0) ∧ TwI S' m (x + 1) ∧ TwI S' m (x + 18) ∧ TwI S' m (x + 35) ∧ m (x + 52) = (fun _ => 0) ∧ (∀ i, i < 4 → m (x + 59 + 2 * i) 1 = -1 ∧ m (x + 59 + 2 * i) 2 = 0) ∧ ∀ i, i < 5 → m (x + 67 + 4 * i) 0 = 0 ∧ m (x + 67 + 4 * i + 2) 2 = 0
theorem dX6_init_0 : decode fX6_init.2.1 0 = .ok (.aload_n 0, 1) := by decide +kernel
theorem dX6_init_1 : decode fX6_init.2.1 1 = .ok (.invokespecial 1, 3) := by decide +kernel
theorem dX6_init_4 : decode fX6_init.2.1 4 = .ok (.aload_n 0, 1) := by decide +kernel
theorem dX6_init_5 : decode fX6_init.2.1 5 = .ok (.new 7, 3) := by decide +kernel
theorem dX6_init_8 : decode fX6_init.2.1 8 = .ok (.dup, 1) := by decide +kernel
theorem dX6_init_9 : decode fX6_init.2.1 9 = .ok (.invokespecial 9, 3) := by decide +kernel
theorem dX6_init_12 : decode fX6_init.2.1 12 = .ok (.putfield 10, 3) := by decide +kernel
theorem dX6_init_15 : decode fX6_init.2.1 15 = .ok (.aload_n 0, 1) := by decide +kernel
theorem dX6_init_16 : decode fX6_init.2.1 16 = .ok (.new 7, 3) := by decide +kernel
theorem dX6_init_19 : decode fX6_init.2.1 19 = .ok (.dup, 1) := by decide +kernel
theorem dX6_init_20 : decode fX6_init.2.1 20 = .ok (.invokespecial 9, 3) := by decide +kernel
theorem dX6_init_23 : decode fX6_init.2.1 23 = .ok (.putfield 16, 3) := by decide +kernel
theorem dX6_init_26 : decode fX6_init.2.1 26 = .ok (.aload_n 0, 1) := by decide +kernel
theorem dX6_init_27 : decode fX6_init.2.1 27 = .ok (.new 7, 3) := by decide +kernel
theorem dX6_init_30 : decode fX6_init.2.1 30 = .ok (.dup, 1) := by decide +kernel
theorem dX6_init_31 : decode fX6_init.2.1 31 = .ok (.invokespecial 9, 3) := by decide +kernel
theorem dX6_init_34 : decode fX6_init.2.1 34 = .ok (.putfield 19, 3) := by decide +kernel
theorem dX6_init_37 : decode fX6_init.2.1 37 = .ok (.aload_n 0, 1) := by decide +kernel
theorem dX6_init_38 : decode fX6_init.2.1 38 = .ok (.new 22, 3) := by decide +kernel
theorem dX6_init_41 : decode fX6_init.2.1 41 = .ok (.dup, 1) := by decide +kernel
theorem dX6_init_42 : decode fX6_init.2.1 42 = .ok (.invokespecial 24, 3) := by decide +kernel
theorem dX6_init_45 : decode fX6_init.2.1 45 = .ok (.putfield 25, 3) := by decide +kernel
theorem dX6_init_48 : decode fX6_init.2.1 48 = .ok (.aload_n 0, 1) := by decide +kernel
theorem dX6_init_49 : decode fX6_init.2.1 49 = .ok (.iconst 4, 1) := by decide +kernel
theorem dX6_init_50 : decode fX6_init.2.1 50 = .ok (.anewarray 29, 3) := by decide +kernel
theorem dX6_init_53 : decode fX6_init.2.1 53 = .ok (.putfield 31, 3) := by decide +kernel
theorem dX6_init_56 : decode fX6_init.2.1 56 = .ok (.aload_n 0, 1) := by decide +kernel
theorem dX6_init_57 : decode fX6_init.2.1 57 = .ok (.iconst 5, 1) := by decide +kernel
theorem dX6_init_58 : decode fX6_init.2.1 58 = .ok (.anewarray 35, 3) := by decide +kernel
theorem dX6_init_61 : decode fX6_init.2.1 61 = .ok (.putfield 37, 3) := by decide +kernel
theorem dX6_init_64 : decode fX6_init.2.1 64 = .ok (.aload_n 0, 1) := by decide +kernel
theorem dX6_init_65 : decode fX6_init.2.1 65 = .ok (.bipush 60, 2) := by decide +kernel
theorem dX6_init_67 : decode fX6_init.2.1 67 = .ok (.newarray .int, 2) := by decide +kernel
theorem dX6_init_69 : decode fX6_init.2.1 69 = .ok (.putfield 41, 3) := by decide +kernel
theorem dX6_init_72 : decode fX6_init.2.1 72 = .ok (.aload_n 0, 1) := by decide +kernel
theorem dX6_init_73 : decode fX6_init.2.1 73 = .ok (.bipush 8, 2) := by decide +kernel
theorem dX6_init_75 : decode fX6_init.2.1 75 = .ok (.newarray .int, 2) := by decide +kernel
theorem dX6_init_77 : decode fX6_init.2.1 77 = .ok (.putfield 45, 3) := by decide +kernel
theorem dX6_init_80 : decode fX6_init.2.1 80 = .ok (.iconst 0, 1) := by decide +kernel
theorem dX6_init_81 : decode fX6_init.2.1 81 = .ok (.istore_n 1, 1) := by decide +kernel
theorem dX6_init_82 : decode fX6_init.2.1 82 = .ok (.iload_n 1, 1) := by decide +kernel
theorem dX6_init_83 : decode fX6_init.2.1 83 = .ok (.iconst 4, 1) := by decide +kernel
theorem dX6_init_84 : decode fX6_init.2.1 84 = .ok (.if_icmp .ge 22, 3) := by decide +kernel
theorem dX6_init_87 : decode fX6_init.2.1 87 = .ok (.aload_n 0, 1) := by decide +kernel
theorem dX6_init_88 : decode fX6_init.2.1 88 = .ok (.getfield 31, 3) := by decide +kernel
theorem dX6_init_91 : decode fX6_init.2.1 91 = .ok (.iload_n 1, 1) := by decide +kernel
theorem dX6_init_92 : decode fX6_init.2.1 92 = .ok (.new 29, 3) := by decide +kernel
theorem dX6_init_95 : decode fX6_init.2.1 95 = .ok (.dup, 1) := by decide +kernel
theorem dX6_init_96 : decode fX6_init.2.1 96 = .ok (.invokespecial 48, 3) := by decide +kernel
theorem dX6_init_99 : decode fX6_init.2.1 99 = .ok (.aastore, 1) := by decide +kernel
theorem dX6_init_100 : decode fX6_init.2.1 100 = .ok (.iinc 1 1, 3) := by decide +kernel
theorem dX6_init_103 : decode fX6_init.2.1 103 = .ok (.goto (-21), 3) := by decide +kernel
theorem dX6_init_106 : decode fX6_init.2.1 106 = .ok (.iconst 0, 1) := by decide +kernel
theorem dX6_init_107 : decode fX6_init.2.1 107 = .ok (.istore_n 1, 1) := by decide +kernel
theorem dX6_init_108 : decode fX6_init.2.1 108 = .ok (.iload_n 1, 1) := by decide +kernel
theorem dX6_init_109 : decode fX6_init.2.1 109 = .ok (.iconst 5, 1) := by decide +kernel
theorem dX6_init_110 : decode fX6_init.2.1 110 = .ok (.if_icmp .ge 22, 3) := by decide +kernel
theorem dX6_init_113 : decode fX6_init.2.1 113 = .ok (.aload_n 0, 1) := by decide +kernel
theorem dX6_init_114 : decode fX6_init.2.1 114 = .ok (.getfield 37, 3) := by decide +kernel
theorem dX6_init_117 : decode fX6_init.2.1 117 = .ok (.iload_n 1, 1) := by decide +kernel
theorem dX6_init_118 : decode fX6_init.2.1 118 = .ok (.new 35, 3) := by decide +kernel
theorem dX6_init_121 : decode fX6_init.2.1 121 = .ok (.dup, 1) := by decide +kernel
theorem dX6_init_122 : decode fX6_init.2.1 122 = .ok (.invokespecial 49, 3) := by decide +kernel
theorem dX6_init_125 : decode fX6_init.2.1 125 = .ok (.aastore, 1) := by decide +kernel
theorem dX6_init_126 : decode fX6_init.2.1 126 = .ok (.iinc 1 1, 3) := by decide +kernel
theorem dX6_init_129 : decode fX6_init.2.1 129 = .ok (.goto (-21), 3) := by decide +kernel
theorem dX6_init_132 : decode fX6_init.2.1 132 = .ok (.return_, 1) := by decide +kernel
set_option maxRecDepth 100000 in
set_option maxHeartbeats 4000000 in
theorem ok_X6_init {X : Xb} {S : Sg} {mi : Mem} {x : Nat} (hq : Kd S x 6 0) (h1 : S.1 = x + 1) (hz : mi x = fun _ => 0) : Ok 3 86 1189 fX6_init X [rf X x] S mi (fun r S' m => r = none ∧ AsP S mi x S' m) := by
  refine Ok.go [some (rf X x), none] (by decide) (by simp [Value.category]) (Nat.le_of_ble_eq_true rfl) rfl ?_
  have fin : ∀ U m, U.1 = x + 87 → AsA U x → ExtP (fun a => a = x ∨ a = x + 55 ∨ a = x + 56) S U → (∀ a, a < x + 1 → m a = mi a) → TwI U m (x + 1) → TwI U m (x + 18) → TwI U m (x + 35) → m (x + 52) = (fun _ => 0) → (∀ i, i < 4 → m (x + 59 + 2 * i) 1 = -1 ∧ m (x + 59 + 2 * i) 2 = 0) → (∀ i, i < 5 → m (x + 67 + 4 * i) 0 = 0 ∧ m (x + 67 + 4 * i + 2) 2 = 0) → AsP S mi x U m := fun U m g1 g2 g3 g4 g5 g6 g7 g8 g9 g10 => ⟨g1, g2, fun a ha => ⟨g3.2.1 a (by omega), g3.2.2 a (by omega) (by omega)⟩, fun a ha => g4 a (by omega), by rw [g4 x (by omega)]; exact hz, g5, g6, g7, g8, g9, g10⟩
  have lp108 : ∀ f k, f + k = 5 → ∀ U m, U.1 = x + 67 + 4 * k → Kd U x 6 0 → (U.2.2 x 0 = some (x + 1) ∧ TwA U (x + 1)) → (U.2.2 x 1 = some (x + 18) ∧ TwA U (x + 18)) → (U.2.2 x 2 = some (x + 35) ∧ TwA U (x + 35)) → (U.2.2 x 4 = some (x + 52) ∧ TpA U (x + 52)) → (U.2.2 x 5 = some (x + 55) ∧ Kd U (x + 55) 12 4) → (U.2.2 x 6 = some (x + 56) ∧ Kd U (x + 56) 13 5) → (U.2.2 x 7 = some (x + 57) ∧ Kd U (x + 57) 8 60) → (U.2.2 x 9 = some (x + 58) ∧ Kd U (x + 58) 8 8) → (∀ i, i < 4 → U.2.2 (x + 55) i = some (x + 59 + 2 * i) ∧ ShA U (x + 59 + 2 * i)) → (∀ i, i < k → U.2.2 (x + 56) i = some (x + 67 + 4 * i) ∧ SlA U (x + 67 + 4 * i)) → ExtP (fun a => a = x ∨ a = x + 55 ∨ a = x + 56) S U → (∀ a, a < x + 1 → m a = mi a) → TwI U m (x + 1) → TwI U m (x + 18) → TwI U m (x + 35) → m (x + 52) = (fun _ => 0) → (∀ i, i < 4 → m (x + 59 + 2 * i) 1 = -1 ∧ m (x + 59 + 2 * i) 2 = 0) → (∀ i, i < k → m (x + 67 + 4 * i) 0 = 0 ∧ m (x + 67 + 4 * i + 2) 2 = 0) → MW X fX6_init (rmOf 3 86 1189) (66 + 4 * k) (1009 + 36 * k) 108 [some (rf X x), some (.int (nI k))] [] U m (mQ X 86 1189 (fun r S' m => r = none ∧ AsP S mi x S' m)) := by
    intro f
    induction f with
    | zero =>
      intro k hk U m u1 kx a0 a1 a2 a4 a5 a6 a7 a9 ash asl ex ma i1 i2 i3 m52 msh msl
      obtain rfl : k = 5 := by omega
      refine mw_iload_n dX6_init_108 rfl ?_
      refine mw_iconst (v := 5) dX6_init_109 (by decide) ?_
      refine mw_icmp_ge (tgt := 132) dX6_init_110 (by decide) (fun h110 => ?_) (fun h110 => ?_)
      · skip
        exact mw_vret dX6_init_132 rfl (by decide) (by decide) (⟨rfl, fin U m (by rw [u1]) ⟨kx, a0, a1, a2, a4, a5, a6, a7, a9, ash, asl⟩ ex ma i1 i2 i3 m52 msh msl⟩)
      · skip
        exact absurd (by decide) h110
    | succ f ih =>
      intro k hk U m u1 kx a0 a1 a2 a4 a5 a6 a7 a9 ash asl ex ma i1 i2 i3 m52 msh msl
      have kn : Kd (nwS U 2 0) (x + 67 + 4 * k) 2 0 := by have g := Kd_nw0 U 2 0; rw [u1] at g; exact g
      refine mw_iload_n dX6_init_108 rfl ?_
      refine mw_iconst (v := 5) dX6_init_109 (by decide) ?_
      refine mw_icmp_ge (tgt := 132) dX6_init_110 (by decide) (fun h110 => ?_) (fun h110 => ?_)
      · skip
        exact absurd h110 (nI_ge (b := 5) (by omega) (by decide))
      · skip
        refine mw_aload_n dX6_init_113 rfl ?_
        refine mw_getr dX6_init_114 fl_X6_37 rfl (kx) (a6.1) ?_
        refine mw_iload_n dX6_init_117 rfl ?_
        refine mw_new (ci := 2) dX6_init_118 rfl cl_X6_35 (by dsimp only [rmOf]; omega) (by show 1009 + 36 * k + 4 ≤ 1189; omega) ?_
        rw [u1]
        refine mw_dup dX6_init_121 rfl ?_
        refine mw_callIN (g := fX2_init) dX6_init_122 nl_X6_49 mfX2_init (ok_X2_init (q := x + 67 + 4 * k) kn (by show U.1 + 1 = _; rw [u1])) rfl rfl (Nat.le_of_ble_eq_true rfl) ⟨by decide, by decide⟩ ⟨by dsimp only [rmOf]; omega, by show 1009 + 36 * k + 4 + 32 ≤ 1189; omega⟩ (fun r V n hp => ?_)
        obtain ⟨rfl, v1, ve, vs, w1, w2, w3, w4, w5⟩ := hp
        have e1 : ExtP (fun a => a = x ∨ a = x + 55 ∨ a = x + 56) U V := ExtP.new ve u1
        refine mw_aast (t0 := 5) dX6_init_125 (e1.kd a6.2) vs.1 (by simp [aTy]) (vp_in_nI (show k < 5 by omega) (by decide)) ?_
        rw [nI_clamp (by omega)]
        have e2 : ExtP (fun a => a = x ∨ a = x + 55 ∨ a = x + 56) V (V.1, V.2.1, r_up V.2.2 (x + 56) k (some (x + 67 + 4 * k))) := ExtP.of (Ext.up V (x + 56) k _) (Or.inr (Or.inr rfl))
        have hr : ∀ i, (V.1, V.2.1, r_up V.2.2 (x + 56) k (some (x + 67 + 4 * k))).2.2 (x + 56) i = if i = k then some (x + 67 + 4 * k) else V.2.2 (x + 56) i := fun i => by (show r_up V.2.2 (x + 56) k _ (x + 56) i = _; simp only [r_up, true_and])
        have hr56 : ∀ a, a ≠ x + 56 → (V.1, V.2.1, r_up V.2.2 (x + 56) k (some (x + 67 + 4 * k))).2.2 a = V.2.2 a := fun a ha => r_up_ne ha
        have hV1 : (V.1, V.2.1, r_up V.2.2 (x + 56) k (some (x + 67 + 4 * k))).1 = x + 67 + 4 * (k + 1) := by (show V.1 = _; rw [v1]; omega)
        generalize (V.1, V.2.1, r_up V.2.2 (x + 56) k (some (x + 67 + 4 * k))) = Z at e2 hr hr56 hV1
        have e12 := e1.tr e2
        have ul : ∀ a, a < x + 67 → a < U.1 := fun a ha => by (rw [u1]; omega)
        have hva : ∀ a, a < U.1 → V.2.2 a = U.2.2 a := fun a ha => (ve.2.2 a (Nat.lt_succ_of_lt ha) (by omega)).trans (by (funext j; exact nw_r ha j))
        have hx : Z.2.2 x = U.2.2 x := (hr56 x (by omega)).trans (hva x (ul x (by omega)))
        have h55 : Z.2.2 (x + 55) = U.2.2 (x + 55) := (hr56 (x + 55) (by omega)).trans (hva (x + 55) (ul _ (by omega)))
        have h52 : Z.2.2 (x + 52) = U.2.2 (x + 52) := (hr56 (x + 52) (by omega)).trans (hva (x + 52) (ul _ (by omega)))
        have tz : ∀ t, t < x + 50 → Z.2.2 (t + 4) = U.2.2 (t + 4) := fun t ht => (hr56 (t + 4) (by omega)).trans (hva (t + 4) (ul _ (by omega)))
        have mz : ∀ a, a < x + 67 + 4 * k → n a = m a := fun a ha => by (rw [w1 a (by omega), nw_m (by rw [u1]; omega)])
        have tiz : ∀ t, t < x + 50 → TwI U m t → TwI Z n t := fun t ht h => ⟨by (rw [mz t (by omega)]; exact h.1), fun j hj => by (rw [mz (t + 1) (by omega), mz (t + 2) (by omega)]; exact h.2.1 j hj), fun j hj => by (rw [mz (t + 5) (by omega)]; exact h.2.2.1 j hj), fun i hi => by (rw [tz t ht]; exact h.2.2.2 i hi)⟩
        refine mw_iincK (k := k) dX6_init_126 rfl rfl (by decide) ?_
        refine mw_goto (tgt := 108) dX6_init_129 (by decide) ?_
        refine MW.sub (by simp [lsub]) (ih (k + 1) (by omega) Z n hV1 (e12.kd kx) ⟨by rw [hx]; exact a0.1, e12.tw a0.2 (by omega) (by omega)⟩ ⟨by rw [hx]; exact a1.1, e12.tw a1.2 (by omega) (by omega)⟩ ⟨by rw [hx]; exact a2.1, e12.tw a2.2 (by omega) (by omega)⟩ ⟨by rw [hx]; exact a4.1, e12.kd a4.2.1, ⟨by rw [h52]; exact a4.2.2.1.1, e12.kd a4.2.2.1.2⟩, by rw [h52]; exact a4.2.2.2.1, e12.kd a4.2.2.2.2⟩ ⟨by rw [hx]; exact a5.1, e12.kd a5.2⟩ ⟨by rw [hx]; exact a6.1, e12.kd a6.2⟩ ⟨by rw [hx]; exact a7.1, e12.kd a7.2⟩ ⟨by rw [hx]; exact a9.1, e12.kd a9.2⟩ (fun i hi => ⟨by rw [h55]; exact (ash i hi).1, e12.sh (ash i hi).2 (by omega)⟩) (fun i hi => ?_) (ex.tr e12) (fun a ha => by rw [mz a (by omega)]; exact ma a ha) (tiz _ (by omega) i1) (tiz _ (by omega) i2) (tiz _ (by omega) i3) (by rw [mz (x + 52) (by omega)]; exact m52) (fun i hi => by rw [mz (x + 59 + 2 * i) (by omega)]; exact msh i hi) (fun i hi => ?_))
        · by_cases c : i = k
          · subst c; exact ⟨by rw [hr, if_pos rfl], e2.sl vs (by omega) (by omega)⟩
          · exact ⟨by rw [hr, if_neg c, hva (x + 56) (ul _ (by omega))]; exact (asl i (by omega)).1, e12.sl (asl i (by omega)).2 (by omega) (by omega)⟩
        · by_cases c : i = k
          · subst c
            refine ⟨?_, w4⟩
            rw [w1 (x + 67 + 4 * i) (by omega)]
            show (if x + 67 + 4 * i = U.1 then (0 : Int32) else _) = 0
            rw [if_pos u1.symm]
          · rw [mz (x + 67 + 4 * i) (by omega), mz (x + 67 + 4 * i + 2) (by omega)]; exact msl i (by omega)
  have lp82 : ∀ f k, f + k = 4 → ∀ U m, U.1 = x + 59 + 2 * k → Kd U x 6 0 → (U.2.2 x 0 = some (x + 1) ∧ TwA U (x + 1)) → (U.2.2 x 1 = some (x + 18) ∧ TwA U (x + 18)) → (U.2.2 x 2 = some (x + 35) ∧ TwA U (x + 35)) → (U.2.2 x 4 = some (x + 52) ∧ TpA U (x + 52)) → (U.2.2 x 5 = some (x + 55) ∧ Kd U (x + 55) 12 4) → (U.2.2 x 6 = some (x + 56) ∧ Kd U (x + 56) 13 5) → (U.2.2 x 7 = some (x + 57) ∧ Kd U (x + 57) 8 60) → (U.2.2 x 9 = some (x + 58) ∧ Kd U (x + 58) 8 8) → (∀ i, i < k → U.2.2 (x + 55) i = some (x + 59 + 2 * i) ∧ ShA U (x + 59 + 2 * i)) → ExtP (fun a => a = x ∨ a = x + 55 ∨ a = x + 56) S U → (∀ a, a < x + 1 → m a = mi a) → TwI U m (x + 1) → TwI U m (x + 18) → TwI U m (x + 35) → m (x + 52) = (fun _ => 0) → (∀ i, i < k → m (x + 59 + 2 * i) 1 = -1 ∧ m (x + 59 + 2 * i) 2 = 0) → MW X fX6_init (rmOf 3 86 1189) (58 + 2 * k) (901 + 27 * k) 82 [some (rf X x), some (.int (nI k))] [] U m (mQ X 86 1189 (fun r S' m => r = none ∧ AsP S mi x S' m)) := by
    intro f
    induction f with
    | zero =>
      intro k hk U m u1 kx a0 a1 a2 a4 a5 a6 a7 a9 ash ex ma i1 i2 i3 m52 msh
      obtain rfl : k = 4 := by omega
      refine mw_iload_n dX6_init_82 rfl ?_
      refine mw_iconst (v := 4) dX6_init_83 (by decide) ?_
      refine mw_icmp_ge (tgt := 106) dX6_init_84 (by decide) (fun h84 => ?_) (fun h84 => ?_)
      · skip
        refine mw_iconst (v := 0) dX6_init_106 (by decide) ?_
        refine mw_istN 1 dX6_init_107 rfl (by decide) ?_
        exact MW.sub (by simp [lsub, nI_0]) (lp108 5 0 rfl U m (by rw [u1]) kx a0 a1 a2 a4 a5 a6 a7 a9 ash (fun i hi => absurd hi (Nat.not_lt_zero i)) ex ma i1 i2 i3 m52 msh (fun i hi => absurd hi (Nat.not_lt_zero i)))
      · skip
        exact absurd (by decide) h84
    | succ f ih =>
      intro k hk U m u1 kx a0 a1 a2 a4 a5 a6 a7 a9 ash ex ma i1 i2 i3 m52 msh
      have kn : Kd (nwS U 1 0) (x + 59 + 2 * k) 1 0 := by have g := Kd_nw0 U 1 0; rw [u1] at g; exact g
      have n1 : (nwS U 1 0).1 = x + 59 + 2 * k + 1 := by show U.1 + 1 = _; rw [u1]
      refine mw_iload_n dX6_init_82 rfl ?_
      refine mw_iconst (v := 4) dX6_init_83 (by decide) ?_
      refine mw_icmp_ge (tgt := 106) dX6_init_84 (by decide) (fun h84 => ?_) (fun h84 => ?_)
      · skip
        exact absurd h84 (nI_ge (b := 4) (by omega) (by decide))
      · skip
        refine mw_aload_n dX6_init_87 rfl ?_
        refine mw_getr dX6_init_88 fl_X6_31 rfl (kx) (a5.1) ?_
        refine mw_iload_n dX6_init_91 rfl ?_
        refine mw_new (ci := 1) dX6_init_92 rfl cl_X6_29 (by dsimp only [rmOf]; omega) (by show 901 + 27 * k + 3 ≤ 1189; omega) ?_
        rw [u1]
        refine mw_dup dX6_init_95 rfl ?_
        refine mw_callIN (g := fX1_init) dX6_init_96 nl_X6_48 mfX1_init (ok_X1_init (q := x + 59 + 2 * k) kn) rfl rfl (Nat.le_of_ble_eq_true rfl) ⟨by decide, by decide⟩ ⟨by dsimp only [rmOf]; omega, by show 901 + 27 * k + 3 + 24 ≤ 1189; omega⟩ (fun r V n hp => ?_)
        obtain ⟨rfl, hVe, hne⟩ := hp
        have ve : Ext (x + 59 + 2 * k) (nwS U 1 0) V := by (rw [hVe]; exact Ext.al _ _ _ _ _)
        have vs : ShA V (x + 59 + 2 * k) := by (rw [hVe]; exact ⟨al_kd kn, by rw [al_r0, n1], by have g := al_kd0 (nwS U 1 0) (x + 59 + 2 * k) 0 8 24; rw [n1] at g; exact g⟩)
        have v1 : V.1 = x + 59 + 2 * k + 2 := by (rw [hVe, al_1, n1])
        have e1 : ExtP (fun a => a = x ∨ a = x + 55 ∨ a = x + 56) U V := ExtP.new ve u1
        refine mw_aast (t0 := 4) dX6_init_99 (e1.kd a5.2) vs.1 (by simp [aTy]) (vp_in_nI (show k < 4 by omega) (by decide)) ?_
        rw [nI_clamp (by omega)]
        have e2 : ExtP (fun a => a = x ∨ a = x + 55 ∨ a = x + 56) V (V.1, V.2.1, r_up V.2.2 (x + 55) k (some (x + 59 + 2 * k))) := ExtP.of (Ext.up V (x + 55) k _) (Or.inr (Or.inl rfl))
        have hr : ∀ i, (V.1, V.2.1, r_up V.2.2 (x + 55) k (some (x + 59 + 2 * k))).2.2 (x + 55) i = if i = k then some (x + 59 + 2 * k) else V.2.2 (x + 55) i := fun i => by (show r_up V.2.2 (x + 55) k _ (x + 55) i = _; simp only [r_up, true_and])
        have hr55 : ∀ a, a ≠ x + 55 → (V.1, V.2.1, r_up V.2.2 (x + 55) k (some (x + 59 + 2 * k))).2.2 a = V.2.2 a := fun a ha => r_up_ne ha
        have hV1 : (V.1, V.2.1, r_up V.2.2 (x + 55) k (some (x + 59 + 2 * k))).1 = x + 59 + 2 * (k + 1) := by (show V.1 = _; rw [v1]; omega)
        generalize (V.1, V.2.1, r_up V.2.2 (x + 55) k (some (x + 59 + 2 * k))) = Z at e2 hr hr55 hV1
        have e12 := e1.tr e2
        have ul : ∀ a, a < x + 59 → a < U.1 := fun a ha => by (rw [u1]; omega)
        have hva : ∀ a, a < U.1 → V.2.2 a = U.2.2 a := fun a ha => (ve.2.2 a (Nat.lt_succ_of_lt ha) (by omega)).trans (by (funext j; exact nw_r ha j))
        have hx : Z.2.2 x = U.2.2 x := (hr55 x (by omega)).trans (hva x (ul x (by omega)))
        have h52 : Z.2.2 (x + 52) = U.2.2 (x + 52) := (hr55 (x + 52) (by omega)).trans (hva (x + 52) (ul _ (by omega)))
        have tz : ∀ t, t < x + 50 → Z.2.2 (t + 4) = U.2.2 (t + 4) := fun t ht => (hr55 (t + 4) (by omega)).trans (hva (t + 4) (ul _ (by omega)))
        have mz : ∀ a, a < x + 59 + 2 * k → n a = m a := fun a ha => by (rw [hne, m_up_ne (by omega), nw_m (by rw [n1]; omega), nw_m (by rw [u1]; omega)])
        refine mw_iincK (k := k) dX6_init_100 rfl rfl (by decide) ?_
        refine mw_goto (tgt := 82) dX6_init_103 (by decide) ?_
        refine MW.sub (by simp [lsub]) (ih (k + 1) (by omega) Z n hV1 (e12.kd kx) ⟨by rw [hx]; exact a0.1, e12.tw a0.2 (by omega) (by omega)⟩ ⟨by rw [hx]; exact a1.1, e12.tw a1.2 (by omega) (by omega)⟩ ⟨by rw [hx]; exact a2.1, e12.tw a2.2 (by omega) (by omega)⟩ ⟨by rw [hx]; exact a4.1, e12.kd a4.2.1, ⟨by rw [h52]; exact a4.2.2.1.1, e12.kd a4.2.2.1.2⟩, by rw [h52]; exact a4.2.2.2.1, e12.kd a4.2.2.2.2⟩ ⟨by rw [hx]; exact a5.1, e12.kd a5.2⟩ ⟨by rw [hx]; exact a6.1, e12.kd a6.2⟩ ⟨by rw [hx]; exact a7.1, e12.kd a7.2⟩ ⟨by rw [hx]; exact a9.1, e12.kd a9.2⟩ (fun i hi => ?_) (ex.tr e12) (fun a ha => by rw [mz a (by omega)]; exact ma a ha) (i1.keep (fun a ha => mz a (by omega)) (tz _ (by omega))) (i2.keep (fun a ha => mz a (by omega)) (tz _ (by omega))) (i3.keep (fun a ha => mz a (by omega)) (tz _ (by omega))) (by rw [mz (x + 52) (by omega)]; exact m52) (fun i hi => ?_))
        · by_cases c : i = k
          · subst c; exact ⟨by rw [hr, if_pos rfl], e2.sh vs (by omega)⟩
          · exact ⟨by rw [hr, if_neg c, hva (x + 55) (ul _ (by omega))]; exact (ash i (by omega)).1, e12.sh (ash i (by omega)).2 (by omega)⟩
        · by_cases c : i = k
          · subst c
            refine ⟨by rw [hne, m_up_at], ?_⟩
            rw [hne, m_up_of (by decide), nw_m (by rw [n1]; omega)]
            show (if x + 59 + 2 * i = U.1 then (0 : Int32) else _) = 0
            rw [if_pos u1.symm]
          · rw [mz (x + 59 + 2 * i) (by omega)]; exact msh i (by omega)
  have np1 : ¬ (fun a => a = x ∨ a = x + 55 ∨ a = x + 56) (x + 1) := by dsimp only; omega
  have np4 : ¬ (fun a => a = x ∨ a = x + 55 ∨ a = x + 56) (x + 1 + 3) := by dsimp only; omega
  have np18 : ¬ (fun a => a = x ∨ a = x + 55 ∨ a = x + 56) (x + 18) := by dsimp only; omega
  have np21 : ¬ (fun a => a = x ∨ a = x + 55 ∨ a = x + 56) (x + 18 + 3) := by dsimp only; omega
  have np35 : ¬ (fun a => a = x ∨ a = x + 55 ∨ a = x + 56) (x + 35) := by dsimp only; omega
  have np38 : ¬ (fun a => a = x ∨ a = x + 55 ∨ a = x + 56) (x + 35 + 3) := by dsimp only; omega
  have s48 : ∀ U (m : Mem), U.1 = x + 55 → Kd U x 6 0 → ExtP (fun a => a = x ∨ a = x + 55 ∨ a = x + 56) S U → (∀ a, a < x + 1 → m a = mi a) → (U.2.2 x 0 = some (x + 1) ∧ TwA U (x + 1) ∧ TwI U m (x + 1)) → (U.2.2 x 1 = some (x + 18) ∧ TwA U (x + 18) ∧ TwI U m (x + 18)) → (U.2.2 x 2 = some (x + 35) ∧ TwA U (x + 35) ∧ TwI U m (x + 35)) → (U.2.2 x 4 = some (x + 52) ∧ TpA U (x + 52) ∧ m (x + 52) = (fun _ => 0)) → MW X fX6_init (rmOf 3 86 1189) 54 824 48 [some (rf X x), none] [] U m (mQ X 86 1189 (fun r S' m => r = none ∧ AsP S mi x S' m)) := by
    intro U m u1 kx ex ma a0 a1 a2 a4
    clear fin lp108
    have l5 : (alS U x 5 12 4).1 = x + 56 := by rw [al_1, u1]
    have l6 : (alS (alS U x 5 12 4) x 6 13 5).1 = x + 57 := by rw [al_1, l5]
    have l7 : (alS (alS (alS U x 5 12 4) x 6 13 5) x 7 8 60).1 = x + 58 := by rw [al_1, l6]
    have l8 : (alS (alS (alS (alS U x 5 12 4) x 6 13 5) x 7 8 60) x 9 8 8).1 = x + 59 + 2 * 0 := by rw [al_1, l7]
    have e8 : ExtP (fun a => a = x ∨ a = x + 55 ∨ a = x + 56) U (alS (alS (alS (alS U x 5 12 4) x 6 13 5) x 7 8 60) x 9 8 8) := ExtP.of ((((Ext.al U x 5 12 4).tr (Ext.al _ x 6 13 5)).tr (Ext.al _ x 7 8 60)).tr (Ext.al _ x 9 8 8)) (Or.inl rfl)
    have xl5 : x < U.1 := by rw [u1]; omega
    have xl6 : x < (alS U x 5 12 4).1 := by rw [l5]; omega
    have xl7 : x < (alS (alS U x 5 12 4) x 6 13 5).1 := by rw [l6]; omega
    have xl8 : x < (alS (alS (alS U x 5 12 4) x 6 13 5) x 7 8 60).1 := by rw [l7]; omega
    have q5 : (alS (alS (alS (alS U x 5 12 4) x 6 13 5) x 7 8 60) x 9 8 8).2.2 x 5 = some (x + 55) ∧ Kd (alS (alS (alS (alS U x 5 12 4) x 6 13 5) x 7 8 60) x 9 8 8) (x + 55) 12 4 := ⟨by rw [al_r xl8 (fun g => absurd g.2 (by decide)), al_r xl7 (fun g => absurd g.2 (by decide)), al_r xl6 (fun g => absurd g.2 (by decide)), al_r0, u1], al_kd (al_kd (al_kd (by have g := al_kd0 U x 5 12 4; rw [u1] at g; exact g)))⟩
    have q6 : (alS (alS (alS (alS U x 5 12 4) x 6 13 5) x 7 8 60) x 9 8 8).2.2 x 6 = some (x + 56) ∧ Kd (alS (alS (alS (alS U x 5 12 4) x 6 13 5) x 7 8 60) x 9 8 8) (x + 56) 13 5 := ⟨by rw [al_r xl8 (fun g => absurd g.2 (by decide)), al_r xl7 (fun g => absurd g.2 (by decide)), al_r0, l5], al_kd (al_kd (by have g := al_kd0 (alS U x 5 12 4) x 6 13 5; rw [l5] at g; exact g))⟩
    have q7 : (alS (alS (alS (alS U x 5 12 4) x 6 13 5) x 7 8 60) x 9 8 8).2.2 x 7 = some (x + 57) ∧ Kd (alS (alS (alS (alS U x 5 12 4) x 6 13 5) x 7 8 60) x 9 8 8) (x + 57) 8 60 := ⟨by rw [al_r xl8 (fun g => absurd g.2 (by decide)), al_r0, l6], al_kd (by have g := al_kd0 (alS (alS U x 5 12 4) x 6 13 5) x 7 8 60; rw [l6] at g; exact g)⟩
    have q9 : (alS (alS (alS (alS U x 5 12 4) x 6 13 5) x 7 8 60) x 9 8 8).2.2 x 9 = some (x + 58) ∧ Kd (alS (alS (alS (alS U x 5 12 4) x 6 13 5) x 7 8 60) x 9 8 8) (x + 58) 8 8 := ⟨by rw [al_r0, l7], by have g := al_kd0 (alS (alS (alS U x 5 12 4) x 6 13 5) x 7 8 60) x 9 8 8; rw [l7] at g; exact g⟩
    have qx : ∀ j, j ≠ 5 → j ≠ 6 → j ≠ 7 → j ≠ 9 → (alS (alS (alS (alS U x 5 12 4) x 6 13 5) x 7 8 60) x 9 8 8).2.2 x j = U.2.2 x j := fun j n1 n2 n3 n4 => by rw [al_r xl8 (fun g => n4 g.2), al_r xl7 (fun g => n3 g.2), al_r xl6 (fun g => n2 g.2), al_r xl5 (fun g => n1 g.2)]
    have qa : ∀ a, a < x + 55 → a ≠ x → (alS (alS (alS (alS U x 5 12 4) x 6 13 5) x 7 8 60) x 9 8 8).2.2 a = U.2.2 a := fun a ha hne => e8.2.2 a (by rw [u1]; exact ha) (by dsimp only; omega)
    have mz8 : ∀ a, a < x + 55 → nwM (alS (alS (alS U x 5 12 4) x 6 13 5) x 7 8 60) (nwM (alS (alS U x 5 12 4) x 6 13 5) (nwM (alS U x 5 12 4) (nwM U m))) a = m a := fun a ha => by rw [nw_m (by rw [l7]; omega), nw_m (by rw [l6]; omega), nw_m (by rw [l5]; omega), nw_m (by rw [u1]; exact ha)]
    have tpz : TpA (alS (alS (alS (alS U x 5 12 4) x 6 13 5) x 7 8 60) x 9 8 8) (x + 52) := ⟨e8.kd a4.2.1.1, ⟨by rw [qa _ (by omega) (by omega)]; exact a4.2.1.2.1.1, e8.kd a4.2.1.2.1.2⟩, by rw [qa _ (by omega) (by omega)]; exact a4.2.1.2.2.1, e8.kd a4.2.1.2.2.2⟩
    have mb : ∀ a, a < x + 1 → nwM (alS (alS (alS U x 5 12 4) x 6 13 5) x 7 8 60) (nwM (alS (alS U x 5 12 4) x 6 13 5) (nwM (alS U x 5 12 4) (nwM U m))) a = mi a := fun a ha => (mz8 a (by omega)).trans (ma a ha)
    have b1 := TwI.keep (Z := (alS (alS (alS (alS U x 5 12 4) x 6 13 5) x 7 8 60) x 9 8 8)) (n := nwM (alS (alS (alS U x 5 12 4) x 6 13 5) x 7 8 60) (nwM (alS (alS U x 5 12 4) x 6 13 5) (nwM (alS U x 5 12 4) (nwM U m)))) (fun a ha => mz8 a (by omega)) (qa _ (by omega) (by omega)) a0.2.2
    have b2 := TwI.keep (Z := (alS (alS (alS (alS U x 5 12 4) x 6 13 5) x 7 8 60) x 9 8 8)) (n := nwM (alS (alS (alS U x 5 12 4) x 6 13 5) x 7 8 60) (nwM (alS (alS U x 5 12 4) x 6 13 5) (nwM (alS U x 5 12 4) (nwM U m)))) (fun a ha => mz8 a (by omega)) (qa _ (by omega) (by omega)) a1.2.2
    have b3 := TwI.keep (Z := (alS (alS (alS (alS U x 5 12 4) x 6 13 5) x 7 8 60) x 9 8 8)) (n := nwM (alS (alS (alS U x 5 12 4) x 6 13 5) x 7 8 60) (nwM (alS (alS U x 5 12 4) x 6 13 5) (nwM (alS U x 5 12 4) (nwM U m)))) (fun a ha => mz8 a (by omega)) (qa _ (by omega) (by omega)) a2.2.2
    have b4 : nwM (alS (alS (alS U x 5 12 4) x 6 13 5) x 7 8 60) (nwM (alS (alS U x 5 12 4) x 6 13 5) (nwM (alS U x 5 12 4) (nwM U m))) (x + 52) = (fun _ => 0) := (mz8 _ (by omega)).trans a4.2.2
    refine mw_aload_n dX6_init_48 rfl ?_
    refine mw_iconst (v := 4) dX6_init_49 (by decide) ?_
    refine mw_anew (S := U) (ci := 1) (c0 := 12) (t0 := 4) (N := 4) dX6_init_50 rfl (by simp [aTy]) cl_X6_29 (by decide) (by decide) (by decide) (by decide) (by decide) (by decide) ?_
    refine mw_putFr (S := nwS U 12 4) (a := U.1) dX6_init_53 fl_X6_31 ft_6_5 rfl (fun q h => by cases h; rfl) rfl rfl rfl (Kd_nw kx) ?_
    refine mw_aload_n dX6_init_56 rfl ?_
    refine mw_iconst (v := 5) dX6_init_57 (by decide) ?_
    refine mw_anew (S := (alS U x 5 12 4)) (ci := 2) (c0 := 13) (t0 := 5) (N := 5) dX6_init_58 rfl (by simp [aTy]) cl_X6_35 (by decide) (by decide) (by decide) (by decide) (by decide) (by decide) ?_
    refine mw_putFr (S := nwS (alS U x 5 12 4) 13 5) (a := (alS U x 5 12 4).1) dX6_init_61 fl_X6_37 ft_6_6 rfl (fun q h => by cases h; rfl) rfl rfl rfl (Kd_nw (al_kd kx)) ?_
    refine mw_aload_n dX6_init_64 rfl ?_
    refine mw_bipush (v := 60) dX6_init_65 (by decide) ?_
    refine mw_newi (S := (alS (alS U x 5 12 4) x 6 13 5)) (N := 60) dX6_init_67 arr_int (by decide) (by decide) (by decide) (by decide) (by decide) ?_
    refine mw_putFr (S := nwS (alS (alS U x 5 12 4) x 6 13 5) 8 60) (a := (alS (alS U x 5 12 4) x 6 13 5).1) dX6_init_69 fl_X6_41 ft_6_7 rfl (fun q h => by cases h; rfl) rfl rfl rfl (Kd_nw (al_kd (al_kd kx))) ?_
    refine mw_aload_n dX6_init_72 rfl ?_
    refine mw_bipush (v := 8) dX6_init_73 (by decide) ?_
    refine mw_newi (S := (alS (alS (alS U x 5 12 4) x 6 13 5) x 7 8 60)) (N := 8) dX6_init_75 arr_int (by decide) (by decide) (by decide) (by decide) (by decide) ?_
    refine mw_putFr (S := nwS (alS (alS (alS U x 5 12 4) x 6 13 5) x 7 8 60) 8 8) (a := (alS (alS (alS U x 5 12 4) x 6 13 5) x 7 8 60).1) dX6_init_77 fl_X6_45 ft_6_9 rfl (fun q h => by cases h; rfl) rfl rfl rfl (Kd_nw (al_kd (al_kd (al_kd kx)))) ?_
    refine mw_iconst (v := 0) dX6_init_80 (by decide) ?_
    refine mw_istN 1 dX6_init_81 rfl (by decide) ?_
    exact MW.sub (by simp [lsub, nI_0]) (lp82 4 0 rfl (alS (alS (alS (alS U x 5 12 4) x 6 13 5) x 7 8 60) x 9 8 8) _ l8 (e8.kd kx) ⟨(qx 0 (by decide) (by decide) (by decide) (by decide)).trans a0.1, e8.tw a0.2.1 np1 np4⟩ ⟨(qx 1 (by decide) (by decide) (by decide) (by decide)).trans a1.1, e8.tw a1.2.1 np18 np21⟩ ⟨(qx 2 (by decide) (by decide) (by decide) (by decide)).trans a2.1, e8.tw a2.2.1 np35 np38⟩ ⟨(qx 4 (by decide) (by decide) (by decide) (by decide)).trans a4.1, tpz⟩ q5 q6 q7 q9 (fun i hi => absurd hi (Nat.not_lt_zero i)) (ex.tr e8) mb b1 b2 b3 b4 (fun i hi => absurd hi (Nat.not_lt_zero i)))
  have s37 : ∀ U (m : Mem), U.1 = x + 52 → Kd U x 6 0 → ExtP (fun a => a = x ∨ a = x + 55 ∨ a = x + 56) S U → (∀ a, a < x + 1 → m a = mi a) → (U.2.2 x 0 = some (x + 1) ∧ TwA U (x + 1) ∧ TwI U m (x + 1)) → (U.2.2 x 1 = some (x + 18) ∧ TwA U (x + 18) ∧ TwI U m (x + 18)) → (U.2.2 x 2 = some (x + 35) ∧ TwA U (x + 35) ∧ TwI U m (x + 35)) → MW X fX6_init (rmOf 3 86 1189) 51 621 37 [some (rf X x), none] [] U m (mQ X 86 1189 (fun r S' m => r = none ∧ AsP S mi x S' m)) := by
    intro U m u1 kx ex ma a0 a1 a2
    clear fin lp108 lp82
    have kn4 : Kd (nwS U 3 0) (x + 52) 3 0 := by have g := Kd_nw0 U 3 0; rw [u1] at g; exact g
    have n41 : (nwS U 3 0).1 = x + 53 := by show U.1 + 1 = _; rw [u1]
    have n42 : (alS (nwS U 3 0) (x + 52) 0 8 96).1 = x + 54 := by rw [al_1, n41]
    refine mw_aload_n dX6_init_37 rfl ?_
    refine mw_new (S := U) (ci := 3) dX6_init_38 rfl cl_X6_22 (by decide) (by decide) ?_
    rw [u1]
    refine mw_dup dX6_init_41 rfl ?_
    refine mw_callIN (g := fX3_init) dX6_init_42 nl_X6_24 mfX3_init (ok_X3_init (q := x + 52) kn4) rfl rfl (Nat.le_of_ble_eq_true rfl) ⟨by decide, by decide⟩ ⟨by decide, by decide⟩ (fun r T n hp => ?_)
    obtain ⟨rfl, hT4, hm4⟩ := hp
    have te : Ext (x + 52) (nwS U 3 0) T := by (rw [hT4]; exact (Ext.al _ _ _ _ _).tr (Ext.al _ _ _ _ _))
    have e4 : ExtP (fun a => a = x ∨ a = x + 55 ∨ a = x + 56) U T := ExtP.new te u1
    have hv : ∀ a, a < x + 52 → T.2.2 a = U.2.2 a := fun a ha => (te.2.2 a (by rw [n41]; omega) (by omega)).trans (by (funext j; exact nw_r (by rw [u1]; exact ha) j))
    have tp4 : TpA T (x + 52) := by (rw [hT4]; exact ⟨al_kd (al_kd kn4), ⟨by rw [al_r (by rw [n42]; omega) (fun g => absurd g.2 (by decide)), al_r0, n41], al_kd (by have g := al_kd0 (nwS U 3 0) (x + 52) 0 8 96; rw [n41] at g; exact g)⟩, by rw [al_r0, n42], by have g := al_kd0 (alS (nwS U 3 0) (x + 52) 0 8 96) (x + 52) 9 8 96; rw [n42] at g; exact g⟩)
    have mz : ∀ a, a < x + 52 → n a = m a := fun a ha => by (rw [hm4, nw_m (by rw [n42]; omega), nw_m (by rw [n41]; omega), nw_m (by rw [u1]; exact ha)])
    have m52 : n (x + 52) = fun _ => 0 := by (rw [hm4, nw_m (by rw [n42]; omega), nw_m (by rw [n41]; omega)]; have g := nwM_0 U m; rw [u1] at g; exact g)
    have t1 : T.1 = x + 55 := by rw [hT4, al_1, n42]
    refine mw_putFr (S := T) (a := x + 52) dX6_init_45 fl_X6_25 ft_6_4 rfl (fun q h => by cases h; rfl) rfl rfl rfl (e4.kd kx) ?_
    have eu : ExtP (fun a => a = x ∨ a = x + 55 ∨ a = x + 56) T (T.1, T.2.1, r_up T.2.2 x 4 (some (x + 52))) := ExtP.of (Ext.up T x 4 _) (Or.inl rfl)
    have rf4 : (T.1, T.2.1, r_up T.2.2 x 4 (some (x + 52))).2.2 x 4 = some (x + 52) := by (show r_up _ x 4 _ x 4 = _; simp [r_up])
    have rx : ∀ j, j ≠ 4 → (T.1, T.2.1, r_up T.2.2 x 4 (some (x + 52))).2.2 x j = U.2.2 x j := fun j hj => by (rw [← hv x (by omega)]; show r_up _ x 4 _ x j = _; simp only [r_up, hj, and_false, if_false])
    have ra : ∀ a, a ≠ x → (T.1, T.2.1, r_up T.2.2 x 4 (some (x + 52))).2.2 a = T.2.2 a := fun a ha => r_up_ne ha
    have uu : (T.1, T.2.1, r_up T.2.2 x 4 (some (x + 52))).1 = x + 55 := t1
    generalize (T.1, T.2.1, r_up T.2.2 x 4 (some (x + 52))) = V at eu rf4 rx ra uu
    have e5 := e4.tr eu
    have tk : ∀ t, t + 17 ≤ x + 52 → x < t → V.2.2 (t + 4) = U.2.2 (t + 4) := fun t h1 h2 => (ra _ (by omega)).trans (hv _ (by omega))
    exact s48 V n uu (e5.kd kx) (ex.tr e5) (fun a ha => (mz a (by omega)).trans (ma a ha)) ⟨(rx 0 (by decide)).trans a0.1, e5.tw a0.2.1 np1 np4, a0.2.2.keep (fun a ha => mz a (by omega)) (tk _ (by omega) (by omega))⟩ ⟨(rx 1 (by decide)).trans a1.1, e5.tw a1.2.1 np18 np21, a1.2.2.keep (fun a ha => mz a (by omega)) (tk _ (by omega) (by omega))⟩ ⟨(rx 2 (by decide)).trans a2.1, e5.tw a2.2.1 np35 np38, a2.2.2.keep (fun a ha => mz a (by omega)) (tk _ (by omega) (by omega))⟩ ⟨rf4, ⟨eu.kd tp4.1, ⟨by rw [ra _ (by omega)]; exact tp4.2.1.1, eu.kd tp4.2.1.2⟩, by rw [ra _ (by omega)]; exact tp4.2.2.1, eu.kd tp4.2.2.2⟩, m52⟩
  have s26 : ∀ U (m : Mem), U.1 = x + 35 → Kd U x 6 0 → ExtP (fun a => a = x ∨ a = x + 55 ∨ a = x + 56) S U → (∀ a, a < x + 1 → m a = mi a) → (U.2.2 x 0 = some (x + 1) ∧ TwA U (x + 1) ∧ TwI U m (x + 1)) → (U.2.2 x 1 = some (x + 18) ∧ TwA U (x + 18) ∧ TwI U m (x + 18)) → MW X fX6_init (rmOf 3 86 1189) 34 414 26 [some (rf X x), none] [] U m (mQ X 86 1189 (fun r S' m => r = none ∧ AsP S mi x S' m)) := by
    intro U m u1 kx ex ma a0 a1
    clear fin lp108 lp82
    have kn : Kd (nwS U 5 0) (x + 35) 5 0 := by have g := Kd_nw0 U 5 0; rw [u1] at g; exact g
    refine mw_aload_n dX6_init_26 rfl ?_
    refine mw_new (S := U) (ci := 5) dX6_init_27 rfl cl_X6_7 (by decide) (by decide) ?_
    rw [u1]
    refine mw_dup dX6_init_30 rfl ?_
    refine mw_callI (g := fX5_init) dX6_init_31 ml_X6_9 mfX5_init (ok_X5_init (t := x + 35) kn (by show U.1 + 1 = _; rw [u1])) rfl rfl (Nat.le_of_ble_eq_true rfl) ⟨by decide, by decide⟩ ⟨by decide, by decide⟩ (fun r T n hp => ?_)
    obtain ⟨rfl, t1, t2, t3, t4, t5, t6, t7, t8⟩ := hp
    have z : nwM U m (x + 35) = fun _ => 0 := by (have g := nwM_0 U m; rw [u1] at g; exact g)
    rw [z] at t6
    have e4 : ExtP (fun a => a = x ∨ a = x + 55 ∨ a = x + 56) U T := ExtP.new t2 u1
    have hv : ∀ a, a < x + 35 → T.2.2 a = U.2.2 a := fun a ha => (t2.2.2 a (by show a < U.1 + 1; rw [u1]; omega) (by omega)).trans (by (funext j; exact nw_r (by rw [u1]; exact ha) j))
    have mz : ∀ a, a < x + 35 → n a = m a := fun a ha => by (rw [t5 a ha, nw_m (by rw [u1]; exact ha)])
    refine mw_putFr (S := T) (a := x + 35) dX6_init_34 fl_X6_19 ft_6_2 rfl (fun q h => by cases h; rfl) rfl rfl rfl (e4.kd kx) ?_
    have eu : ExtP (fun a => a = x ∨ a = x + 55 ∨ a = x + 56) T (T.1, T.2.1, r_up T.2.2 x 2 (some (x + 35))) := ExtP.of (Ext.up T x 2 _) (Or.inl rfl)
    have rf4 : (T.1, T.2.1, r_up T.2.2 x 2 (some (x + 35))).2.2 x 2 = some (x + 35) := by (show r_up _ x 2 _ x 2 = _; simp [r_up])
    have rx : ∀ j, j ≠ 2 → (T.1, T.2.1, r_up T.2.2 x 2 (some (x + 35))).2.2 x j = U.2.2 x j := fun j hj => by (rw [← hv x (by omega)]; show r_up _ x 2 _ x j = _; simp only [r_up, hj, and_false, if_false])
    have ra : ∀ a, a ≠ x → (T.1, T.2.1, r_up T.2.2 x 2 (some (x + 35))).2.2 a = T.2.2 a := fun a ha => r_up_ne ha
    have uu : (T.1, T.2.1, r_up T.2.2 x 2 (some (x + 35))).1 = x + 52 := t1
    generalize (T.1, T.2.1, r_up T.2.2 x 2 (some (x + 35))) = V at eu rf4 rx ra uu
    have e5 := e4.tr eu
    have tk : ∀ t, t + 17 ≤ x + 35 → x < t → V.2.2 (t + 4) = U.2.2 (t + 4) := fun t h1 h2 => (ra _ (by omega)).trans (hv _ (by omega))
    have tn : TwI V n (x + 35) := ⟨t6, t7, t8, fun i hi => by (rw [ra _ (by omega)]; exact t4 i hi)⟩
    exact s37 V n uu (e5.kd kx) (ex.tr e5) (fun a ha => (mz a (by omega)).trans (ma a ha)) ⟨(rx 0 (by decide)).trans a0.1, e5.tw a0.2.1 np1 np4, a0.2.2.keep (fun a ha => mz a (by omega)) (tk _ (by omega) (by omega))⟩ ⟨(rx 1 (by decide)).trans a1.1, e5.tw a1.2.1 np18 np21, a1.2.2.keep (fun a ha => mz a (by omega)) (tk _ (by omega) (by omega))⟩ ⟨rf4, eu.tw t3 np35 np38, tn⟩
  have s15 : ∀ U (m : Mem), U.1 = x + 18 → Kd U x 6 0 → ExtP (fun a => a = x ∨ a = x + 55 ∨ a = x + 56) S U → (∀ a, a < x + 1 → m a = mi a) → (U.2.2 x 0 = some (x + 1) ∧ TwA U (x + 1) ∧ TwI U m (x + 1)) → MW X fX6_init (rmOf 3 86 1189) 17 207 15 [some (rf X x), none] [] U m (mQ X 86 1189 (fun r S' m => r = none ∧ AsP S mi x S' m)) := by
    intro U m u1 kx ex ma a0
    clear fin lp108 lp82
    have kn : Kd (nwS U 5 0) (x + 18) 5 0 := by have g := Kd_nw0 U 5 0; rw [u1] at g; exact g
    refine mw_aload_n dX6_init_15 rfl ?_
    refine mw_new (S := U) (ci := 5) dX6_init_16 rfl cl_X6_7 (by decide) (by decide) ?_
    rw [u1]
    refine mw_dup dX6_init_19 rfl ?_
    refine mw_callI (g := fX5_init) dX6_init_20 ml_X6_9 mfX5_init (ok_X5_init (t := x + 18) kn (by show U.1 + 1 = _; rw [u1])) rfl rfl (Nat.le_of_ble_eq_true rfl) ⟨by decide, by decide⟩ ⟨by decide, by decide⟩ (fun r T n hp => ?_)
    obtain ⟨rfl, t1, t2, t3, t4, t5, t6, t7, t8⟩ := hp
    have z : nwM U m (x + 18) = fun _ => 0 := by (have g := nwM_0 U m; rw [u1] at g; exact g)
    rw [z] at t6
    have e4 : ExtP (fun a => a = x ∨ a = x + 55 ∨ a = x + 56) U T := ExtP.new t2 u1
    have hv : ∀ a, a < x + 18 → T.2.2 a = U.2.2 a := fun a ha => (t2.2.2 a (by show a < U.1 + 1; rw [u1]; omega) (by omega)).trans (by (funext j; exact nw_r (by rw [u1]; exact ha) j))
    have mz : ∀ a, a < x + 18 → n a = m a := fun a ha => by (rw [t5 a ha, nw_m (by rw [u1]; exact ha)])
    refine mw_putFr (S := T) (a := x + 18) dX6_init_23 fl_X6_16 ft_6_1 rfl (fun q h => by cases h; rfl) rfl rfl rfl (e4.kd kx) ?_
    have eu : ExtP (fun a => a = x ∨ a = x + 55 ∨ a = x + 56) T (T.1, T.2.1, r_up T.2.2 x 1 (some (x + 18))) := ExtP.of (Ext.up T x 1 _) (Or.inl rfl)
    have rf4 : (T.1, T.2.1, r_up T.2.2 x 1 (some (x + 18))).2.2 x 1 = some (x + 18) := by (show r_up _ x 1 _ x 1 = _; simp [r_up])
    have rx : ∀ j, j ≠ 1 → (T.1, T.2.1, r_up T.2.2 x 1 (some (x + 18))).2.2 x j = U.2.2 x j := fun j hj => by (rw [← hv x (by omega)]; show r_up _ x 1 _ x j = _; simp only [r_up, hj, and_false, if_false])
    have ra : ∀ a, a ≠ x → (T.1, T.2.1, r_up T.2.2 x 1 (some (x + 18))).2.2 a = T.2.2 a := fun a ha => r_up_ne ha
    have uu : (T.1, T.2.1, r_up T.2.2 x 1 (some (x + 18))).1 = x + 35 := t1
    generalize (T.1, T.2.1, r_up T.2.2 x 1 (some (x + 18))) = V at eu rf4 rx ra uu
    have e5 := e4.tr eu
    have tk : ∀ t, t + 17 ≤ x + 18 → x < t → V.2.2 (t + 4) = U.2.2 (t + 4) := fun t h1 h2 => (ra _ (by omega)).trans (hv _ (by omega))
    have tn : TwI V n (x + 18) := ⟨t6, t7, t8, fun i hi => by (rw [ra _ (by omega)]; exact t4 i hi)⟩
    exact s26 V n uu (e5.kd kx) (ex.tr e5) (fun a ha => (mz a (by omega)).trans (ma a ha)) ⟨(rx 0 (by decide)).trans a0.1, e5.tw a0.2.1 np1 np4, a0.2.2.keep (fun a ha => mz a (by omega)) (tk _ (by omega) (by omega))⟩ ⟨rf4, eu.tw t3 np18 np21, tn⟩
  have s4 : ∀ U (m : Mem), U.1 = x + 1 → Kd U x 6 0 → ExtP (fun a => a = x ∨ a = x + 55 ∨ a = x + 56) S U → (∀ a, a < x + 1 → m a = mi a) → MW X fX6_init (rmOf 3 86 1189) 0 0 4 [some (rf X x), none] [] U m (mQ X 86 1189 (fun r S' m => r = none ∧ AsP S mi x S' m)) := by
    intro U m u1 kx ex ma
    clear fin lp108 lp82
    have kn : Kd (nwS U 5 0) (x + 1) 5 0 := by have g := Kd_nw0 U 5 0; rw [u1] at g; exact g
    refine mw_aload_n dX6_init_4 rfl ?_
    refine mw_new (S := U) (ci := 5) dX6_init_5 rfl cl_X6_7 (by decide) (by decide) ?_
    rw [u1]
    refine mw_dup dX6_init_8 rfl ?_
    refine mw_callI (g := fX5_init) dX6_init_9 ml_X6_9 mfX5_init (ok_X5_init (t := x + 1) kn (by show U.1 + 1 = _; rw [u1])) rfl rfl (Nat.le_of_ble_eq_true rfl) ⟨by decide, by decide⟩ ⟨by decide, by decide⟩ (fun r T n hp => ?_)
    obtain ⟨rfl, t1, t2, t3, t4, t5, t6, t7, t8⟩ := hp
    have z : nwM U m (x + 1) = fun _ => 0 := by (have g := nwM_0 U m; rw [u1] at g; exact g)
    rw [z] at t6
    have e4 : ExtP (fun a => a = x ∨ a = x + 55 ∨ a = x + 56) U T := ExtP.new t2 u1
    have hv : ∀ a, a < x + 1 → T.2.2 a = U.2.2 a := fun a ha => (t2.2.2 a (by show a < U.1 + 1; rw [u1]; omega) (by omega)).trans (by (funext j; exact nw_r (by rw [u1]; exact ha) j))
    have mz : ∀ a, a < x + 1 → n a = m a := fun a ha => by (rw [t5 a ha, nw_m (by rw [u1]; exact ha)])
    refine mw_putFr (S := T) (a := x + 1) dX6_init_12 fl_X6_10 ft_6_0 rfl (fun q h => by cases h; rfl) rfl rfl rfl (e4.kd kx) ?_
    have eu : ExtP (fun a => a = x ∨ a = x + 55 ∨ a = x + 56) T (T.1, T.2.1, r_up T.2.2 x 0 (some (x + 1))) := ExtP.of (Ext.up T x 0 _) (Or.inl rfl)
    have rf4 : (T.1, T.2.1, r_up T.2.2 x 0 (some (x + 1))).2.2 x 0 = some (x + 1) := by (show r_up _ x 0 _ x 0 = _; simp [r_up])
    have rx : ∀ j, j ≠ 0 → (T.1, T.2.1, r_up T.2.2 x 0 (some (x + 1))).2.2 x j = U.2.2 x j := fun j hj => by (rw [← hv x (by omega)]; show r_up _ x 0 _ x j = _; simp only [r_up, hj, and_false, if_false])
    have ra : ∀ a, a ≠ x → (T.1, T.2.1, r_up T.2.2 x 0 (some (x + 1))).2.2 a = T.2.2 a := fun a ha => r_up_ne ha
    have uu : (T.1, T.2.1, r_up T.2.2 x 0 (some (x + 1))).1 = x + 18 := t1
    generalize (T.1, T.2.1, r_up T.2.2 x 0 (some (x + 1))) = V at eu rf4 rx ra uu
    have e5 := e4.tr eu
    have tk : ∀ t, t + 17 ≤ x + 1 → x < t → V.2.2 (t + 4) = U.2.2 (t + 4) := fun t h1 h2 => (ra _ (by omega)).trans (hv _ (by omega))
    have tn : TwI V n (x + 1) := ⟨t6, t7, t8, fun i hi => by (rw [ra _ (by omega)]; exact t4 i hi)⟩
    exact s15 V n uu (e5.kd kx) (ex.tr e5) (fun a ha => (mz a (by omega)).trans (ma a ha))  ⟨rf4, eu.tw t3 np1 np4, tn⟩
  refine mw_aload_n dX6_init_0 rfl ?_
  refine mw_objI dX6_init_1 ml_X6_1 (Nat.le_of_ble_eq_true rfl) ⟨by decide, by decide⟩ ?_
  exact s4 S mi h1 hq (ExtP.rf _ S) (fun _ _ => rfl)
