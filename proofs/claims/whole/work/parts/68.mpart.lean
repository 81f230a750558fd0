/-! the model: a part, a key -/
def FrE (o : Nat) (mi m : Mem) : Prop := (∀ a, a ≠ o → a ≠ o + 9 → a ≠ o + 10 → a ≠ o + 11 → m a = mi a) ∧ ∀ j, (j < 8 ∨ j = 13 ∨ 20 < j) → m o j = mi o j
theorem FrE.rf (o : Nat) (mi : Mem) : FrE o mi mi := ⟨fun _ _ _ _ _ => rfl, fun _ _ => rfl⟩
theorem FrE.tr {o : Nat} {a b c : Mem} (h : FrE o a b) (k : FrE o b c) : FrE o a c := ⟨fun i h1 h2 h3 h4 => (k.1 i h1 h2 h3 h4).trans (h.1 i h1 h2 h3 h4), fun j h1 => (k.2 j h1).trans (h.2 j h1)⟩
theorem FrE.g {o : Nat} {a b : Mem} (h : FrG o a b) : FrE o a b := ⟨fun i h1 _ _ _ => h.1 i h1, fun j h1 => h.2 j (by omega)⟩
theorem FrE.s {o : Nat} {a b : Mem} (h : FrS o a b) : FrE o a b := ⟨fun i h1 h2 h3 _ => h.1 i h1 h2 h3, fun j h1 => h.2 j (by omega) (by omega)⟩
theorem FrE.up {o k : Nat} {a b : Mem} {v : Int32} (h : FrE o a b) (hk : 8 ≤ k ∧ k ≤ 20 ∧ k ≠ 13) : FrE o a (m_up b o k v) := ⟨fun i g _ _ _ => by rw [m_up_ne g]; exact h.1 i g (by assumption) (by assumption) (by assumption), fun j g => by rw [m_up_of (by omega)]; exact h.2 j g⟩
theorem FrE.upA {o i k : Nat} {a b : Mem} {v : Int32} (h : FrE o a b) (hi : i = o + 9 ∨ i = o + 10 ∨ i = o + 11) : FrE o a (m_up b i k v) := ⟨fun x g1 g2 g3 g4 => by rw [m_up_ne (by omega)]; exact h.1 x g1 g2 g3 g4, fun j g => by rw [m_up_ne (by omega)]; exact h.2 j g⟩
theorem TpM.e {mi m : Mem} {o len : Nat} {b : Nat → Int32} (h : TpM mi o b len) (k : FrE o mi m) : TpM m o b len := ⟨by rw [k.1 (o + 6) (by omega) (by omega) (by omega) (by omega)]; exact h.1, by rw [k.2 7 (by omega)]; exact h.2⟩
theorem McS.g {a b : Mem} {o at' : Nat} {C W : List Int32} (h : McS a o C at' W) (k : FrG o a b) : McS b o C at' W := ⟨by rw [k.2 17 (by omega)]; exact h.1, by rw [k.2 18 (by omega)]; exact h.2.1, by rw [k.2 20 (by omega)]; exact h.2.2.1, by rw [k.1 (o + 9) (by omega)]; exact h.2.2.2.1, by rw [k.1 (o + 10) (by omega)]; exact h.2.2.2.2⟩
theorem TkG.s {a b : Mem} {o : Nat} {G : Gt} (h : TkG a o G) (k : FrS o a b) : TkG b o G := ⟨by rw [k.2 8 (by decide) (by decide)]; exact h.1, by rw [k.2 9 (by decide) (by decide)]; exact h.2.1, by rw [k.2 10 (by decide) (by decide)]; exact h.2.2.1, by rw [k.2 11 (by decide) (by decide)]; exact h.2.2.2.1, by rw [k.2 12 (by decide) (by decide)]; exact h.2.2.2.2⟩
theorem TkG.o {a : Mem} {o j : Nat} {G : Gt} {v : Int32} (h : TkG a o G) (hj : j < 8 ∨ 12 < j) : TkG (m_up a o j v) o G := ⟨by rw [m_up_of (by omega)]; exact h.1, by rw [m_up_of (by omega)]; exact h.2.1, by rw [m_up_of (by omega)]; exact h.2.2.1, by rw [m_up_of (by omega)]; exact h.2.2.2.1, by rw [m_up_of (by omega)]; exact h.2.2.2.2⟩
theorem TkG.a {a : Mem} {o i j : Nat} {G : Gt} {v : Int32} (h : TkG a o G) (hi : o ≠ i) : TkG (m_up a i j v) o G := ⟨by rw [m_up_ne hi]; exact h.1, by rw [m_up_ne hi]; exact h.2.1, by rw [m_up_ne hi]; exact h.2.2.1, by rw [m_up_ne hi]; exact h.2.2.2.1, by rw [m_up_ne hi]; exact h.2.2.2.2⟩
/-- bounds of a word's or sign's place -/
def Gb (len : Nat) (G : Gt) : Prop := G.2.1 ≤ G.1 ∧ G.1 ≤ len ∧ G.2.2.1 ≤ 4 ∧ (G.2.2.1 ≠ 0 → G.2.1 < G.1) ∧ (G.2.2.1 = 0 → G.2.1 = len) ∧ len ≤ 96
theorem gb_go {b : Nat → Int32} {len : Nat} {G : Gt} (h1 : G.1 ≤ len) (hl : len ≤ 96) : Gb len (goS b len G) ∧ G.1 ≤ (goS b len G).2.1 := by
  have g := skB_le (b := b) (len := len) (len - G.1) G.1 h1
  unfold goS
  generalize skB b len (len - G.1) G.1 = fm at g
  have step : ∀ s, s ≠ 0 → srtN b len fm = s → fm < skW b len s (len - fm) fm ∧ skW b len s (len - fm) fm ≤ len := by
    intro s hs0 hs
    have hlt : fm < len := srtN_lt (b := b) (by omega)
    obtain ⟨k, hk⟩ : ∃ k, len - fm = k + 1 := ⟨len - fm - 1, by omega⟩
    rw [hk]
    simp only [skW]
    rw [if_pos ⟨hlt, hs⟩]
    have := skW_le (b := b) (len := len) (s := s) k (fm + 1) (by omega)
    omega
  unfold gosF Gb
  by_cases c0 : fm = len
  · rw [if_pos c0]; dsimp only; omega
  · rw [if_neg c0]
    by_cases c1 : srtN b len fm = 1
    · have s := step 1 (by decide) c1
      rw [if_pos c1]; dsimp only
      by_cases c : nI fm = G.2.2.2.2
      · rw [if_pos c]; omega
      · rw [if_neg c]; omega
    · rw [if_neg c1]
      by_cases c2 : srtN b len fm = 2
      · have s := step 2 (by decide) c2
        rw [if_pos c2]; dsimp only
        by_cases c : nI fm = G.2.2.2.2 ∨ 4 < skW b len 2 (len - fm) fm - fm
        · rw [if_pos c]; omega
        · rw [if_neg c]; omega
      · rw [if_neg c2]; dsimp only; omega
def tpB (key : Nat) (G : Gt) : Bool := decide (G.2.2.1 = 2) || (decide (G.2.2.1 = 1) && decide (G.1 - G.2.1 = 1) && !decide (nmM (nI key) G.2.2.2.1 < 0))
def tpV (key : Nat) (G : Gt) : Int32 := if G.2.2.1 = 2 then G.2.2.2.1 else 10000 + nmM (nI key) G.2.2.2.1
theorem dX7_takesPart_0 : decode fX7_takesPart.2.1 0 = .ok (.aload_n 0, 1) := by decide +kernel
theorem dX7_takesPart_1 : decode fX7_takesPart.2.1 1 = .ok (.getfield 207, 3) := by decide +kernel
theorem dX7_takesPart_4 : decode fX7_takesPart.2.1 4 = .ok (.iconst 1, 1) := by decide +kernel
theorem dX7_takesPart_5 : decode fX7_takesPart.2.1 5 = .ok (.if_icmp .ne 31, 3) := by decide +kernel
theorem dX7_takesPart_8 : decode fX7_takesPart.2.1 8 = .ok (.aload_n 0, 1) := by decide +kernel
theorem dX7_takesPart_9 : decode fX7_takesPart.2.1 9 = .ok (.getfield 198, 3) := by decide +kernel
theorem dX7_takesPart_12 : decode fX7_takesPart.2.1 12 = .ok (.aload_n 0, 1) := by decide +kernel
theorem dX7_takesPart_13 : decode fX7_takesPart.2.1 13 = .ok (.getfield 201, 3) := by decide +kernel
theorem dX7_takesPart_16 : decode fX7_takesPart.2.1 16 = .ok (.isub, 1) := by decide +kernel
theorem dX7_takesPart_17 : decode fX7_takesPart.2.1 17 = .ok (.iconst 1, 1) := by decide +kernel
theorem dX7_takesPart_18 : decode fX7_takesPart.2.1 18 = .ok (.if_icmp .ne 18, 3) := by decide +kernel
theorem dX7_takesPart_21 : decode fX7_takesPart.2.1 21 = .ok (.aload_n 0, 1) := by decide +kernel
theorem dX7_takesPart_22 : decode fX7_takesPart.2.1 22 = .ok (.aload_n 0, 1) := by decide +kernel
theorem dX7_takesPart_23 : decode fX7_takesPart.2.1 23 = .ok (.getfield 213, 3) := by decide +kernel
theorem dX7_takesPart_26 : decode fX7_takesPart.2.1 26 = .ok (.invokevirtual 234, 3) := by decide +kernel
theorem dX7_takesPart_29 : decode fX7_takesPart.2.1 29 = .ok (.ifCond .lt 7, 3) := by decide +kernel
theorem dX7_takesPart_32 : decode fX7_takesPart.2.1 32 = .ok (.iconst 1, 1) := by decide +kernel
theorem dX7_takesPart_33 : decode fX7_takesPart.2.1 33 = .ok (.goto 4, 3) := by decide +kernel
theorem dX7_takesPart_36 : decode fX7_takesPart.2.1 36 = .ok (.iconst 0, 1) := by decide +kernel
theorem dX7_takesPart_37 : decode fX7_takesPart.2.1 37 = .ok (.istore_n 1, 1) := by decide +kernel
theorem dX7_takesPart_38 : decode fX7_takesPart.2.1 38 = .ok (.aload_n 0, 1) := by decide +kernel
theorem dX7_takesPart_39 : decode fX7_takesPart.2.1 39 = .ok (.getfield 207, 3) := by decide +kernel
theorem dX7_takesPart_42 : decode fX7_takesPart.2.1 42 = .ok (.iconst 2, 1) := by decide +kernel
theorem dX7_takesPart_43 : decode fX7_takesPart.2.1 43 = .ok (.if_icmp .eq 9, 3) := by decide +kernel
theorem dX7_takesPart_46 : decode fX7_takesPart.2.1 46 = .ok (.iload_n 1, 1) := by decide +kernel
theorem dX7_takesPart_47 : decode fX7_takesPart.2.1 47 = .ok (.ifCond .ne 5, 3) := by decide +kernel
theorem dX7_takesPart_50 : decode fX7_takesPart.2.1 50 = .ok (.iconst 0, 1) := by decide +kernel
theorem dX7_takesPart_51 : decode fX7_takesPart.2.1 51 = .ok (.ireturn, 1) := by decide +kernel
theorem dX7_takesPart_52 : decode fX7_takesPart.2.1 52 = .ok (.aload_n 0, 1) := by decide +kernel
theorem dX7_takesPart_53 : decode fX7_takesPart.2.1 53 = .ok (.getfield 35, 3) := by decide +kernel
theorem dX7_takesPart_56 : decode fX7_takesPart.2.1 56 = .ok (.aload_n 0, 1) := by decide +kernel
theorem dX7_takesPart_57 : decode fX7_takesPart.2.1 57 = .ok (.getfield 231, 3) := by decide +kernel
theorem dX7_takesPart_60 : decode fX7_takesPart.2.1 60 = .ok (.aload_n 0, 1) := by decide +kernel
theorem dX7_takesPart_61 : decode fX7_takesPart.2.1 61 = .ok (.getfield 207, 3) := by decide +kernel
theorem dX7_takesPart_64 : decode fX7_takesPart.2.1 64 = .ok (.iconst 2, 1) := by decide +kernel
theorem dX7_takesPart_65 : decode fX7_takesPart.2.1 65 = .ok (.if_icmp .ne 10, 3) := by decide +kernel
theorem dX7_takesPart_68 : decode fX7_takesPart.2.1 68 = .ok (.aload_n 0, 1) := by decide +kernel
theorem dX7_takesPart_69 : decode fX7_takesPart.2.1 69 = .ok (.getfield 213, 3) := by decide +kernel
theorem dX7_takesPart_72 : decode fX7_takesPart.2.1 72 = .ok (.goto 15, 3) := by decide +kernel
theorem dX7_takesPart_75 : decode fX7_takesPart.2.1 75 = .ok (.sipush 10000, 3) := by decide +kernel
theorem dX7_takesPart_78 : decode fX7_takesPart.2.1 78 = .ok (.aload_n 0, 1) := by decide +kernel
theorem dX7_takesPart_79 : decode fX7_takesPart.2.1 79 = .ok (.aload_n 0, 1) := by decide +kernel
theorem dX7_takesPart_80 : decode fX7_takesPart.2.1 80 = .ok (.getfield 213, 3) := by decide +kernel
theorem dX7_takesPart_83 : decode fX7_takesPart.2.1 83 = .ok (.invokevirtual 234, 3) := by decide +kernel
theorem dX7_takesPart_86 : decode fX7_takesPart.2.1 86 = .ok (.iadd, 1) := by decide +kernel
theorem dX7_takesPart_87 : decode fX7_takesPart.2.1 87 = .ok (.iastore, 1) := by decide +kernel
theorem dX7_takesPart_88 : decode fX7_takesPart.2.1 88 = .ok (.aload_n 0, 1) := by decide +kernel
theorem dX7_takesPart_89 : decode fX7_takesPart.2.1 89 = .ok (.dup, 1) := by decide +kernel
theorem dX7_takesPart_90 : decode fX7_takesPart.2.1 90 = .ok (.getfield 231, 3) := by decide +kernel
theorem dX7_takesPart_93 : decode fX7_takesPart.2.1 93 = .ok (.iconst 1, 1) := by decide +kernel
theorem dX7_takesPart_94 : decode fX7_takesPart.2.1 94 = .ok (.iadd, 1) := by decide +kernel
theorem dX7_takesPart_95 : decode fX7_takesPart.2.1 95 = .ok (.putfield 231, 3) := by decide +kernel
theorem dX7_takesPart_98 : decode fX7_takesPart.2.1 98 = .ok (.aload_n 0, 1) := by decide +kernel
theorem dX7_takesPart_99 : decode fX7_takesPart.2.1 99 = .ok (.dup, 1) := by decide +kernel
theorem dX7_takesPart_100 : decode fX7_takesPart.2.1 100 = .ok (.getfield 237, 3) := by decide +kernel
theorem dX7_takesPart_103 : decode fX7_takesPart.2.1 103 = .ok (.iconst 1, 1) := by decide +kernel
theorem dX7_takesPart_104 : decode fX7_takesPart.2.1 104 = .ok (.iadd, 1) := by decide +kernel
theorem dX7_takesPart_105 : decode fX7_takesPart.2.1 105 = .ok (.putfield 237, 3) := by decide +kernel
theorem dX7_takesPart_108 : decode fX7_takesPart.2.1 108 = .ok (.aload_n 0, 1) := by decide +kernel
theorem dX7_takesPart_109 : decode fX7_takesPart.2.1 109 = .ok (.bipush 6, 2) := by decide +kernel
theorem dX7_takesPart_111 : decode fX7_takesPart.2.1 111 = .ok (.invokevirtual 240, 3) := by decide +kernel
theorem dX7_takesPart_114 : decode fX7_takesPart.2.1 114 = .ok (.aload_n 0, 1) := by decide +kernel
theorem dX7_takesPart_115 : decode fX7_takesPart.2.1 115 = .ok (.invokevirtual 222, 3) := by decide +kernel
theorem dX7_takesPart_118 : decode fX7_takesPart.2.1 118 = .ok (.iconst 1, 1) := by decide +kernel
theorem dX7_takesPart_119 : decode fX7_takesPart.2.1 119 = .ok (.ireturn, 1) := by decide +kernel
set_option maxRecDepth 100000 in
set_option maxHeartbeats 4000000 in
theorem ok_X7_takesPart {X : Xb} {S : Sg} {mi : Mem} {o len key at' : Nat} {b : Nat → Int32} {G : Gt} {C W : List Int32} (hM : MdA S o) (hB : TpM mi o b len) (hG : TkG mi o G) (hb : Gb len G) (hC : McS mi o C at' W) (hk : mi o 13 = nI key) (h96 : C.length + W.length < 96) : Ok 2 0 0 fX7_takesPart X [rf X o] S mi (fun r S' m => r = some (.int (b2i (tpB key G = true))) ∧ S' = S ∧ (tpB key G = false → m = mi) ∧ (tpB key G = true → McS m o (setF 6 (C ++ [tpV key G]) W).1 (at' + 1) (setF 6 (C ++ [tpV key G]) W).2 ∧ TkG m o (goS b len G) ∧ FrE o mi m ∧ m (o + 11) = mi (o + 11))) := by
  refine Ok.go [some (rf X o), none] (by decide) (by simp [Value.category]) (Nat.le_of_ble_eq_true rfl) rfl ?_
  obtain ⟨k_o, ⟨r_o_now, k_o_now⟩, ⟨r_o_image, k_o_image⟩, ⟨r_o_aside, k_o_aside⟩, ⟨r_o_seen, k_o_seen⟩, ⟨r_o_unlike, k_o_unlike⟩, ⟨r_o_tape, k_o_tape⟩, ⟨r_o_keys, k_o_keys⟩, ⟨r_o_keyAt, k_o_keyAt⟩, ⟨r_o_code, k_o_code⟩, ⟨r_o_waits, k_o_waits⟩, ⟨r_o_tested, k_o_tested⟩, ⟨r_o_stack, k_o_stack⟩, ⟨r_o_facts, k_o_facts⟩, ⟨r_o_sorts, k_o_sorts⟩, ⟨r_o_sizes, k_o_sizes⟩, ⟨r_o_cells, k_o_cells⟩, ⟨r_o_holds, k_o_holds⟩, ⟨r_o_holdsA, k_o_holdsA⟩, ⟨r_o_holdsB, k_o_holdsB⟩, ⟨r_o_heldCells, k_o_heldCells⟩, ⟨r_o_moved, k_o_moved⟩, ⟨r_o_tells, k_o_tells⟩⟩ := id hM
  obtain ⟨b1, b2, b3, b4, b5, b6⟩ := hb
  have e8 : mi o 8 = nI G.1 := hG.1
  have e9 : mi o 9 = nI G.2.1 := hG.2.1
  have e10 : mi o 10 = nI G.2.2.1 := hG.2.2.1
  have e11 : mi o 11 = G.2.2.2.1 := hG.2.2.2.1
  have ee : nI G.1 - nI G.2.1 = nI (G.1 - G.2.1) := pk_sub b1
  have i1 : nI G.2.2.1 = 1 ↔ G.2.2.1 = 1 := nI_eq (b := 1) (by omega) (by decide)
  have i2 : nI G.2.2.1 = 2 ↔ G.2.2.1 = 2 := nI_eq (b := 2) (by omega) (by decide)
  have id' : nI (G.1 - G.2.1) = 1 ↔ G.1 - G.2.1 = 1 := nI_eq (b := 1) (by omega) (by decide)
  have s87 : ∀ v (u : Int32), v = tpV key G → tpB key G = true → MW X fX7_takesPart (rmOf 2 0 0) 0 0 87 [some (rf X o), some (.int u)] [.int v, .int (nI C.length), rf X (o + 9)] S mi (mQ X 0 0 (fun r S' m => r = some (.int (b2i (tpB key G = true))) ∧ S' = S ∧ (tpB key G = false → m = mi) ∧ (tpB key G = true → McS m o (setF 6 (C ++ [tpV key G]) W).1 (at' + 1) (setF 6 (C ++ [tpV key G]) W).2 ∧ TkG m o (goS b len G) ∧ FrE o mi m ∧ m (o + 11) = mi (o + 11)))) := by
    rintro v u rfl ht
    have c0 : m_up mi (o + 9) C.length (tpV key G) o 17 = nI C.length := by rw [m_up_ne (by omega)]; exact hC.1
    have c1 : m_up (m_up mi (o + 9) C.length (tpV key G)) o 17 (nI (C.length + 1)) o 18 = nI at' := by rw [m_up_of (by decide), m_up_ne (by omega)]; exact hC.2.1
    have k1 : McS (m_up (m_up (m_up mi (o + 9) C.length (tpV key G)) o 17 (nI (C.length + 1))) o 18 (nI (at' + 1))) o (C ++ [tpV key G]) (at' + 1) W := ⟨by rw [m_up_of (by decide), m_up_at]; simp, m_up_at _ _ _ _, by rw [m_up_of (by decide), m_up_of (by decide), m_up_ne (by omega)]; exact hC.2.2.1, by rw [m_up_ne (by omega), m_up_ne (by omega), m_up_row]; exact hC.2.2.2.1.push, by rw [m_up_ne (by omega), m_up_ne (by omega), m_up_ne (by omega)]; exact hC.2.2.2.2⟩
    have k2 : TkG (m_up (m_up (m_up mi (o + 9) C.length (tpV key G)) o 17 (nI (C.length + 1))) o 18 (nI (at' + 1))) o G := ((hG.a (by omega)).o (by decide)).o (by decide)
    have f1 : FrE o mi (m_up (m_up (m_up mi (o + 9) C.length (tpV key G)) o 17 (nI (C.length + 1))) o 18 (nI (at' + 1))) := (((FrE.rf o mi).upA (Or.inl rfl)).up (by decide)).up (by decide)
    have t1 : (m_up (m_up (m_up mi (o + 9) C.length (tpV key G)) o 17 (nI (C.length + 1))) o 18 (nI (at' + 1))) (o + 11) = mi (o + 11) := by rw [m_up_ne (by omega), m_up_ne (by omega), m_up_ne (by omega)]
    refine mw_iastK (k := C.length) dX7_takesPart_87 (by assumption) (rfl) (by omega) (by decide) ?_
    refine mw_aload_n dX7_takesPart_88 rfl ?_
    refine mw_dup dX7_takesPart_89 rfl ?_
    refine mw_geti dX7_takesPart_90 fl_X7_231 rfl (by assumption) ?_
    rw [c0]
    refine mw_iconst (v := 1) dX7_takesPart_93 (by decide) ?_
    refine mw_iadd dX7_takesPart_94 ?_
    rw [nI_1]
    refine mw_puti dX7_takesPart_95 fl_X7_231 ft_7_17 rfl (rfl) rfl (by assumption) ?_
    refine mw_aload_n dX7_takesPart_98 rfl ?_
    refine mw_dup dX7_takesPart_99 rfl ?_
    refine mw_geti dX7_takesPart_100 fl_X7_237 rfl (by assumption) ?_
    rw [c1]
    refine mw_iconst (v := 1) dX7_takesPart_103 (by decide) ?_
    refine mw_iadd dX7_takesPart_104 ?_
    rw [nI_1]
    refine mw_puti dX7_takesPart_105 fl_X7_237 ft_7_18 rfl (rfl) rfl (by assumption) ?_
    generalize m_up (m_up (m_up mi (o + 9) C.length (tpV key G)) o 17 (nI (C.length + 1))) o 18 (nI (at' + 1)) = m1 at k1 k2 f1 t1
    refine mw_aload_n dX7_takesPart_108 rfl ?_
    refine mw_bipush (v := 6) dX7_takesPart_109 (by decide) ?_
    refine mw_callV (g := fX7_settle) dX7_takesPart_111 ml_X7_240 mfX7_settle (ok_X7_settle (least := 6) hM k1 (by simp; omega)) k_o rfl rfl (Nat.le_of_ble_eq_true rfl) ⟨by decide, by decide⟩ ⟨by decide, by decide⟩ (fun r S2 m2 hp => ?_)
    obtain ⟨rfl, e1, h2, f2⟩ := hp
    rw [e1]
    have k3 := k2.s f2
    have f12 := f1.tr (FrE.s f2)
    refine mw_aload_n dX7_takesPart_114 rfl ?_
    refine mw_callV (g := fX7_go) dX7_takesPart_115 ml_X7_222 mfX7_go (ok_X7_go hM (hB.e f12) b6 k3 b2) k_o rfl rfl (Nat.le_of_ble_eq_true rfl) ⟨by decide, by decide⟩ ⟨by decide, by decide⟩ (fun r S3 m3 hp => ?_)
    obtain ⟨rfl, e2, h3, f3⟩ := hp
    rw [e2]
    refine mw_iconst (v := 1) dX7_takesPart_118 (by decide) ?_
    exact mw_bret dX7_takesPart_119 rfl (by first | exact Or.inl rfl | exact Or.inr rfl | exact b2i_01) (by decide) (by decide) (⟨by rw [b2i_t ht], rfl, fun g => by (rw [ht] at g; cases g), fun _ => ⟨h2.g f3, h3, f12.tr (FrE.g f3), by rw [f3.1 (o + 11) (by omega), f2.1 (o + 11) (by omega) (by omega) (by omega)]; exact t1⟩⟩)
  have s52 : ∀ u : Int32, tpB key G = true → MW X fX7_takesPart (rmOf 2 0 0) 0 0 52 [some (rf X o), some (.int u)] [] S mi (mQ X 0 0 (fun r S' m => r = some (.int (b2i (tpB key G = true))) ∧ S' = S ∧ (tpB key G = false → m = mi) ∧ (tpB key G = true → McS m o (setF 6 (C ++ [tpV key G]) W).1 (at' + 1) (setF 6 (C ++ [tpV key G]) W).2 ∧ TkG m o (goS b len G) ∧ FrE o mi m ∧ m (o + 11) = mi (o + 11)))) := by
    intro u ht
    refine mw_aload_n dX7_takesPart_52 rfl ?_
    refine mw_getr dX7_takesPart_53 fl_X7_35 rfl (by assumption) (by assumption) ?_
    refine mw_aload_n dX7_takesPart_56 rfl ?_
    refine mw_geti dX7_takesPart_57 fl_X7_231 rfl (by assumption) ?_
    rw [hC.1]
    refine mw_aload_n dX7_takesPart_60 rfl ?_
    refine mw_geti dX7_takesPart_61 fl_X7_207 rfl (by assumption) ?_
    rw [e10]
    refine mw_iconst (v := 2) dX7_takesPart_64 (by decide) ?_
    refine mw_icmp_ne (tgt := 75) dX7_takesPart_65 (by decide) (fun h65 => ?_) (fun h65 => ?_)
    · skip
      refine mw_sipush (v := 10000) dX7_takesPart_75 (by decide) ?_
      refine mw_aload_n dX7_takesPart_78 rfl ?_
      refine mw_aload_n dX7_takesPart_79 rfl ?_
      refine mw_geti dX7_takesPart_80 fl_X7_213 rfl (by assumption) ?_
      rw [e11]
      refine mw_cVI (g := fX7_nameOf) dX7_takesPart_83 ml_X7_234 mfX7_nameOf (ok_X7_nameOf hM) (by assumption) rfl rfl (Nat.le_of_ble_eq_true rfl) ⟨by decide, by decide⟩ ⟨by decide, by decide⟩ ?_
      rw [hk]
      refine mw_iadd dX7_takesPart_86 ?_
      first
        | exact s87 _ u (by rw [tpV, if_neg (fun g => h65 (i2.mpr g))]) ht
        | exact s87 _ u (by rw [tpV, if_pos (i2.mp h65)]) ht
        | fail "stop"
    · skip
      refine mw_aload_n dX7_takesPart_68 rfl ?_
      refine mw_geti dX7_takesPart_69 fl_X7_213 rfl (by assumption) ?_
      rw [e11]
      refine mw_goto (tgt := 87) dX7_takesPart_72 (by decide) ?_
      first
        | exact s87 _ u (by rw [tpV, if_neg (fun g => h65 (i2.mpr g))]) ht
        | exact s87 _ u (by rw [tpV, if_pos (i2.mp h65)]) ht
        | fail "stop"
  have s38 : ∀ u : Int32, ((u = 1 ∧ (G.2.2.1 = 1 ∧ G.1 - G.2.1 = 1 ∧ ¬ nmM (nI key) G.2.2.2.1 < 0)) ∨ (u = 0 ∧ ¬ (G.2.2.1 = 1 ∧ G.1 - G.2.1 = 1 ∧ ¬ nmM (nI key) G.2.2.2.1 < 0))) → MW X fX7_takesPart (rmOf 2 0 0) 0 0 38 [some (rf X o), some (.int u)] [] S mi (mQ X 0 0 (fun r S' m => r = some (.int (b2i (tpB key G = true))) ∧ S' = S ∧ (tpB key G = false → m = mi) ∧ (tpB key G = true → McS m o (setF 6 (C ++ [tpV key G]) W).1 (at' + 1) (setF 6 (C ++ [tpV key G]) W).2 ∧ TkG m o (goS b len G) ∧ FrE o mi m ∧ m (o + 11) = mi (o + 11)))) := by
    intro u hu
    refine mw_aload_n dX7_takesPart_38 rfl ?_
    refine mw_geti dX7_takesPart_39 fl_X7_207 rfl (by assumption) ?_
    rw [e10]
    refine mw_iconst (v := 2) dX7_takesPart_42 (by decide) ?_
    refine mw_icmp_eq (tgt := 52) dX7_takesPart_43 (by decide) (fun h43 => ?_) (fun h43 => ?_)
    · skip
      first
        | (have c : ¬ u = 0 := h47; have c2 : G.2.2.1 = 1 ∧ G.1 - G.2.1 = 1 ∧ ¬ nmM (nI key) G.2.2.2.1 < 0 := (by rcases hu with g | g; exact g.2; exact absurd g.1 c); exact s52 u (by simp [tpB, c2.1, c2.2.1, c2.2.2]))
        | (have c : G.2.2.1 = 2 := i2.mp h43; exact s52 u (by simp [tpB, c]))
        | fail "stop"
    · skip
      refine mw_iload_n dX7_takesPart_46 rfl ?_
      refine mw_if_ne (tgt := 52) dX7_takesPart_47 (by decide) (fun h47 => ?_) (fun h47 => ?_)
      · skip
        first
          | (have c : ¬ u = 0 := h47; have c2 : G.2.2.1 = 1 ∧ G.1 - G.2.1 = 1 ∧ ¬ nmM (nI key) G.2.2.2.1 < 0 := (by rcases hu with g | g; exact g.2; exact absurd g.1 c); exact s52 u (by simp [tpB, c2.1, c2.2.1, c2.2.2]))
          | (have c : G.2.2.1 = 2 := i2.mp h43; exact s52 u (by simp [tpB, c]))
          | fail "stop"
      · skip
        refine mw_iconst (v := 0) dX7_takesPart_50 (by decide) ?_
        exact mw_bret dX7_takesPart_51 rfl (by first | exact Or.inl rfl | exact Or.inr rfl | exact b2i_01) (by decide) (by decide) (by have c : ¬ G.2.2.1 = 2 := fun g => h43 (i2.mpr g); have c2 : ¬ (G.2.2.1 = 1 ∧ G.1 - G.2.1 = 1 ∧ ¬ nmM (nI key) G.2.2.2.1 < 0) := (by rcases hu with g | g; exact absurd (g.1.symm.trans h47) (by decide); exact g.2); have ht : tpB key G = false := (by cases hh : tpB key G; rfl; exfalso; simp only [tpB, Bool.or_eq_true, Bool.and_eq_true, decide_eq_true_eq, Bool.not_eq_true', decide_eq_false_iff_not] at hh; rcases hh with g | g; exact c g; exact c2 ⟨g.1.1, g.1.2, g.2⟩); exact ⟨by rw [ht]; rfl, rfl, fun _ => rfl, fun g => by (rw [ht] at g; cases g)⟩)
  refine mw_aload_n dX7_takesPart_0 rfl ?_
  refine mw_geti dX7_takesPart_1 fl_X7_207 rfl (by assumption) ?_
  rw [e10]
  refine mw_iconst (v := 1) dX7_takesPart_4 (by decide) ?_
  refine mw_icmp_ne (tgt := 36) dX7_takesPart_5 (by decide) (fun h5 => ?_) (fun h5 => ?_)
  · skip
    refine mw_iconst (v := 0) dX7_takesPart_36 (by decide) ?_
    refine mw_istN 1 dX7_takesPart_37 rfl (by decide) ?_
    first
      | (have c : ¬ nmM (nI key) G.2.2.2.1 < 0 := h29; exact s38 1 (Or.inl ⟨rfl, i1.mp h5, id'.mp h18, c⟩))
      | (have c : nmM (nI key) G.2.2.2.1 < 0 := h29; exact s38 0 (Or.inr ⟨rfl, fun g => g.2.2 c⟩))
      | (have c : ¬ nI (G.1 - G.2.1) = 1 := h18; exact s38 0 (Or.inr ⟨rfl, fun g => c (id'.mpr g.2.1)⟩))
      | exact s38 0 (Or.inr ⟨rfl, fun g => h5 (i1.mpr g.1)⟩)
      | fail "stop"
  · skip
    refine mw_aload_n dX7_takesPart_8 rfl ?_
    refine mw_geti dX7_takesPart_9 fl_X7_198 rfl (by assumption) ?_
    rw [e8]
    refine mw_aload_n dX7_takesPart_12 rfl ?_
    refine mw_geti dX7_takesPart_13 fl_X7_201 rfl (by assumption) ?_
    rw [e9]
    refine mw_isub dX7_takesPart_16 ?_
    rw [ee]
    refine mw_iconst (v := 1) dX7_takesPart_17 (by decide) ?_
    refine mw_icmp_ne (tgt := 36) dX7_takesPart_18 (by decide) (fun h18 => ?_) (fun h18 => ?_)
    · skip
      refine mw_iconst (v := 0) dX7_takesPart_36 (by decide) ?_
      refine mw_istN 1 dX7_takesPart_37 rfl (by decide) ?_
      first
        | (have c : ¬ nmM (nI key) G.2.2.2.1 < 0 := h29; exact s38 1 (Or.inl ⟨rfl, i1.mp h5, id'.mp h18, c⟩))
        | (have c : nmM (nI key) G.2.2.2.1 < 0 := h29; exact s38 0 (Or.inr ⟨rfl, fun g => g.2.2 c⟩))
        | (have c : ¬ nI (G.1 - G.2.1) = 1 := h18; exact s38 0 (Or.inr ⟨rfl, fun g => c (id'.mpr g.2.1)⟩))
        | exact s38 0 (Or.inr ⟨rfl, fun g => h5 (i1.mpr g.1)⟩)
        | fail "stop"
    · skip
      refine mw_aload_n dX7_takesPart_21 rfl ?_
      refine mw_aload_n dX7_takesPart_22 rfl ?_
      refine mw_geti dX7_takesPart_23 fl_X7_213 rfl (by assumption) ?_
      rw [e11]
      refine mw_cVI (g := fX7_nameOf) dX7_takesPart_26 ml_X7_234 mfX7_nameOf (ok_X7_nameOf hM) (by assumption) rfl rfl (Nat.le_of_ble_eq_true rfl) ⟨by decide, by decide⟩ ⟨by decide, by decide⟩ ?_
      rw [hk]
      refine mw_if_lt (tgt := 36) dX7_takesPart_29 (by decide) (fun h29 => ?_) (fun h29 => ?_)
      · skip
        refine mw_iconst (v := 0) dX7_takesPart_36 (by decide) ?_
        refine mw_istN 1 dX7_takesPart_37 rfl (by decide) ?_
        first
          | (have c : ¬ nmM (nI key) G.2.2.2.1 < 0 := h29; exact s38 1 (Or.inl ⟨rfl, i1.mp h5, id'.mp h18, c⟩))
          | (have c : nmM (nI key) G.2.2.2.1 < 0 := h29; exact s38 0 (Or.inr ⟨rfl, fun g => g.2.2 c⟩))
          | (have c : ¬ nI (G.1 - G.2.1) = 1 := h18; exact s38 0 (Or.inr ⟨rfl, fun g => c (id'.mpr g.2.1)⟩))
          | exact s38 0 (Or.inr ⟨rfl, fun g => h5 (i1.mpr g.1)⟩)
          | fail "stop"
      · skip
        refine mw_iconst (v := 1) dX7_takesPart_32 (by decide) ?_
        refine mw_goto (tgt := 37) dX7_takesPart_33 (by decide) ?_
        refine mw_istN 1 dX7_takesPart_37 rfl (by decide) ?_
        first
          | (have c : ¬ nmM (nI key) G.2.2.2.1 < 0 := h29; exact s38 1 (Or.inl ⟨rfl, i1.mp h5, id'.mp h18, c⟩))
          | (have c : nmM (nI key) G.2.2.2.1 < 0 := h29; exact s38 0 (Or.inr ⟨rfl, fun g => g.2.2 c⟩))
          | (have c : ¬ nI (G.1 - G.2.1) = 1 := h18; exact s38 0 (Or.inr ⟨rfl, fun g => c (id'.mpr g.2.1)⟩))
          | exact s38 0 (Or.inr ⟨rfl, fun g => h5 (i1.mpr g.1)⟩)
          | fail "stop"
def keysF (j : Nat) : Int32 := ([119, 97, 110, 116, 102, 101, 101, 102, 105, 110, 101] : List Int32).getD j 0
def katN (j : Nat) : Nat := ([0, 4, 7, 11] : List Nat).getD j 0
def kmB (b : Nat → Int32) (G : Gt) (w : Nat) : Bool := if G.2.2.1 = 1 ∧ G.1 - G.2.1 = sN w then hrF b G.2.1 w (sN w) 0 else false
def keyM (b : Nat → Int32) (G : Gt) : Int32 := if kmB b G 0 = true then 0 else if kmB b G 1 = true then 1 else if kmB b G 2 = true then 2 else -1
theorem kat_s : ∀ w, w < 3 → nI (katN (w + 1)) - nI (katN w) = nI (sN w) := by decide
theorem kat_k : ∀ w, w < 3 → ∀ k, k < sN w → keysF (katN w + k) = sB w k ∧ katN w + k < 11 := by decide
def PKy (S : Sg) (mi : Mem) (o : Nat) (b : Nat → Int32) (len : Nat) (G : Gt) : Pt3 := fun r S' m => S' = S ∧ ((keyM b G < 0 ∧ r = some (.int (b2i (False : Prop))) ∧ m = mi) ∨ (¬ keyM b G < 0 ∧ r = some (.int (b2i (True : Prop))) ∧ m o 13 = keyM b G ∧ TkG m o (goS b len G) ∧ (∀ a, a ≠ o → m a = mi a) ∧ ∀ j, (j < 8 ∨ 13 < j) → m o j = mi o j))
theorem dX7_takesKey_0 : decode fX7_takesKey.2.1 0 = .ok (.aload_n 0, 1) := by decide +kernel
theorem dX7_takesKey_1 : decode fX7_takesKey.2.1 1 = .ok (.getfield 207, 3) := by decide +kernel
theorem dX7_takesKey_4 : decode fX7_takesKey.2.1 4 = .ok (.iconst 1, 1) := by decide +kernel
theorem dX7_takesKey_5 : decode fX7_takesKey.2.1 5 = .ok (.if_icmp .eq 5, 3) := by decide +kernel
theorem dX7_takesKey_8 : decode fX7_takesKey.2.1 8 = .ok (.iconst 0, 1) := by decide +kernel
theorem dX7_takesKey_9 : decode fX7_takesKey.2.1 9 = .ok (.ireturn, 1) := by decide +kernel
theorem dX7_takesKey_10 : decode fX7_takesKey.2.1 10 = .ok (.iconst 0, 1) := by decide +kernel
theorem dX7_takesKey_11 : decode fX7_takesKey.2.1 11 = .ok (.istore_n 1, 1) := by decide +kernel
theorem dX7_takesKey_12 : decode fX7_takesKey.2.1 12 = .ok (.iload_n 1, 1) := by decide +kernel
theorem dX7_takesKey_13 : decode fX7_takesKey.2.1 13 = .ok (.iconst 3, 1) := by decide +kernel
theorem dX7_takesKey_14 : decode fX7_takesKey.2.1 14 = .ok (.if_icmp .ge 113, 3) := by decide +kernel
theorem dX7_takesKey_17 : decode fX7_takesKey.2.1 17 = .ok (.aload_n 0, 1) := by decide +kernel
theorem dX7_takesKey_18 : decode fX7_takesKey.2.1 18 = .ok (.getfield 32, 3) := by decide +kernel
theorem dX7_takesKey_21 : decode fX7_takesKey.2.1 21 = .ok (.iload_n 1, 1) := by decide +kernel
theorem dX7_takesKey_22 : decode fX7_takesKey.2.1 22 = .ok (.iconst 1, 1) := by decide +kernel
theorem dX7_takesKey_23 : decode fX7_takesKey.2.1 23 = .ok (.iadd, 1) := by decide +kernel
theorem dX7_takesKey_24 : decode fX7_takesKey.2.1 24 = .ok (.iaload, 1) := by decide +kernel
theorem dX7_takesKey_25 : decode fX7_takesKey.2.1 25 = .ok (.aload_n 0, 1) := by decide +kernel
theorem dX7_takesKey_26 : decode fX7_takesKey.2.1 26 = .ok (.getfield 32, 3) := by decide +kernel
theorem dX7_takesKey_29 : decode fX7_takesKey.2.1 29 = .ok (.iload_n 1, 1) := by decide +kernel
theorem dX7_takesKey_30 : decode fX7_takesKey.2.1 30 = .ok (.iaload, 1) := by decide +kernel
theorem dX7_takesKey_31 : decode fX7_takesKey.2.1 31 = .ok (.isub, 1) := by decide +kernel
theorem dX7_takesKey_32 : decode fX7_takesKey.2.1 32 = .ok (.istore_n 2, 1) := by decide +kernel
theorem dX7_takesKey_33 : decode fX7_takesKey.2.1 33 = .ok (.iload_n 2, 1) := by decide +kernel
theorem dX7_takesKey_34 : decode fX7_takesKey.2.1 34 = .ok (.aload_n 0, 1) := by decide +kernel
theorem dX7_takesKey_35 : decode fX7_takesKey.2.1 35 = .ok (.getfield 198, 3) := by decide +kernel
theorem dX7_takesKey_38 : decode fX7_takesKey.2.1 38 = .ok (.aload_n 0, 1) := by decide +kernel
theorem dX7_takesKey_39 : decode fX7_takesKey.2.1 39 = .ok (.getfield 201, 3) := by decide +kernel
theorem dX7_takesKey_42 : decode fX7_takesKey.2.1 42 = .ok (.isub, 1) := by decide +kernel
theorem dX7_takesKey_43 : decode fX7_takesKey.2.1 43 = .ok (.if_icmp .ne 7, 3) := by decide +kernel
theorem dX7_takesKey_46 : decode fX7_takesKey.2.1 46 = .ok (.iconst 1, 1) := by decide +kernel
theorem dX7_takesKey_47 : decode fX7_takesKey.2.1 47 = .ok (.goto 4, 3) := by decide +kernel
theorem dX7_takesKey_50 : decode fX7_takesKey.2.1 50 = .ok (.iconst 0, 1) := by decide +kernel
theorem dX7_takesKey_51 : decode fX7_takesKey.2.1 51 = .ok (.istore_n 3, 1) := by decide +kernel
theorem dX7_takesKey_52 : decode fX7_takesKey.2.1 52 = .ok (.iconst 0, 1) := by decide +kernel
theorem dX7_takesKey_53 : decode fX7_takesKey.2.1 53 = .ok (.istore 4, 2) := by decide +kernel
theorem dX7_takesKey_55 : decode fX7_takesKey.2.1 55 = .ok (.iload 4, 2) := by decide +kernel
theorem dX7_takesKey_57 : decode fX7_takesKey.2.1 57 = .ok (.iload_n 2, 1) := by decide +kernel
theorem dX7_takesKey_58 : decode fX7_takesKey.2.1 58 = .ok (.if_icmp .ge 48, 3) := by decide +kernel
theorem dX7_takesKey_61 : decode fX7_takesKey.2.1 61 = .ok (.iload_n 3, 1) := by decide +kernel
theorem dX7_takesKey_62 : decode fX7_takesKey.2.1 62 = .ok (.ifCond .eq 44, 3) := by decide +kernel
theorem dX7_takesKey_65 : decode fX7_takesKey.2.1 65 = .ok (.aload_n 0, 1) := by decide +kernel
theorem dX7_takesKey_66 : decode fX7_takesKey.2.1 66 = .ok (.getfield 25, 3) := by decide +kernel
theorem dX7_takesKey_69 : decode fX7_takesKey.2.1 69 = .ok (.aload_n 0, 1) := by decide +kernel
theorem dX7_takesKey_70 : decode fX7_takesKey.2.1 70 = .ok (.getfield 201, 3) := by decide +kernel
theorem dX7_takesKey_73 : decode fX7_takesKey.2.1 73 = .ok (.iload 4, 2) := by decide +kernel
theorem dX7_takesKey_75 : decode fX7_takesKey.2.1 75 = .ok (.iadd, 1) := by decide +kernel
theorem dX7_takesKey_76 : decode fX7_takesKey.2.1 76 = .ok (.iaload, 1) := by decide +kernel
theorem dX7_takesKey_77 : decode fX7_takesKey.2.1 77 = .ok (.aload_n 0, 1) := by decide +kernel
theorem dX7_takesKey_78 : decode fX7_takesKey.2.1 78 = .ok (.getfield 28, 3) := by decide +kernel
theorem dX7_takesKey_81 : decode fX7_takesKey.2.1 81 = .ok (.aload_n 0, 1) := by decide +kernel
theorem dX7_takesKey_82 : decode fX7_takesKey.2.1 82 = .ok (.getfield 32, 3) := by decide +kernel
theorem dX7_takesKey_85 : decode fX7_takesKey.2.1 85 = .ok (.iload_n 1, 1) := by decide +kernel
theorem dX7_takesKey_86 : decode fX7_takesKey.2.1 86 = .ok (.iaload, 1) := by decide +kernel
theorem dX7_takesKey_87 : decode fX7_takesKey.2.1 87 = .ok (.iload 4, 2) := by decide +kernel
theorem dX7_takesKey_89 : decode fX7_takesKey.2.1 89 = .ok (.iadd, 1) := by decide +kernel
theorem dX7_takesKey_90 : decode fX7_takesKey.2.1 90 = .ok (.caload, 1) := by decide +kernel
theorem dX7_takesKey_91 : decode fX7_takesKey.2.1 91 = .ok (.if_icmp .ne 7, 3) := by decide +kernel
theorem dX7_takesKey_94 : decode fX7_takesKey.2.1 94 = .ok (.iconst 1, 1) := by decide +kernel
theorem dX7_takesKey_95 : decode fX7_takesKey.2.1 95 = .ok (.goto 4, 3) := by decide +kernel
theorem dX7_takesKey_98 : decode fX7_takesKey.2.1 98 = .ok (.iconst 0, 1) := by decide +kernel
theorem dX7_takesKey_99 : decode fX7_takesKey.2.1 99 = .ok (.istore_n 3, 1) := by decide +kernel
theorem dX7_takesKey_100 : decode fX7_takesKey.2.1 100 = .ok (.iinc 4 1, 3) := by decide +kernel
theorem dX7_takesKey_103 : decode fX7_takesKey.2.1 103 = .ok (.goto (-48), 3) := by decide +kernel
theorem dX7_takesKey_106 : decode fX7_takesKey.2.1 106 = .ok (.iload_n 3, 1) := by decide +kernel
theorem dX7_takesKey_107 : decode fX7_takesKey.2.1 107 = .ok (.ifCond .eq 14, 3) := by decide +kernel
theorem dX7_takesKey_110 : decode fX7_takesKey.2.1 110 = .ok (.aload_n 0, 1) := by decide +kernel
theorem dX7_takesKey_111 : decode fX7_takesKey.2.1 111 = .ok (.iload_n 1, 1) := by decide +kernel
theorem dX7_takesKey_112 : decode fX7_takesKey.2.1 112 = .ok (.putfield 219, 3) := by decide +kernel
theorem dX7_takesKey_115 : decode fX7_takesKey.2.1 115 = .ok (.aload_n 0, 1) := by decide +kernel
theorem dX7_takesKey_116 : decode fX7_takesKey.2.1 116 = .ok (.invokevirtual 222, 3) := by decide +kernel
theorem dX7_takesKey_119 : decode fX7_takesKey.2.1 119 = .ok (.iconst 1, 1) := by decide +kernel
theorem dX7_takesKey_120 : decode fX7_takesKey.2.1 120 = .ok (.ireturn, 1) := by decide +kernel
theorem dX7_takesKey_121 : decode fX7_takesKey.2.1 121 = .ok (.iinc 1 1, 3) := by decide +kernel
theorem dX7_takesKey_124 : decode fX7_takesKey.2.1 124 = .ok (.goto (-112), 3) := by decide +kernel
theorem dX7_takesKey_127 : decode fX7_takesKey.2.1 127 = .ok (.iconst 0, 1) := by decide +kernel
theorem dX7_takesKey_128 : decode fX7_takesKey.2.1 128 = .ok (.ireturn, 1) := by decide +kernel
set_option maxRecDepth 100000 in
set_option maxHeartbeats 4000000 in
theorem ok_X7_takesKey {X : Xb} {S : Sg} {mi : Mem} {o len : Nat} {b : Nat → Int32} {G : Gt} (hM : MdA S o) (hB : TpM mi o b len) (hG : TkG mi o G) (hb : Gb len G) (h7 : ∀ j, j < 11 → mi (o + 7) j = keysF j) (h8 : ∀ j, j < 4 → mi (o + 8) j = nI (katN j)) : Ok 2 0 0 fX7_takesKey X [rf X o] S mi (PKy S mi o b len G) := by
  refine Ok.go [some (rf X o), none, none, none, none] (by decide) (by simp [Value.category]) (Nat.le_of_ble_eq_true rfl) rfl ?_
  obtain ⟨k_o, ⟨r_o_now, k_o_now⟩, ⟨r_o_image, k_o_image⟩, ⟨r_o_aside, k_o_aside⟩, ⟨r_o_seen, k_o_seen⟩, ⟨r_o_unlike, k_o_unlike⟩, ⟨r_o_tape, k_o_tape⟩, ⟨r_o_keys, k_o_keys⟩, ⟨r_o_keyAt, k_o_keyAt⟩, ⟨r_o_code, k_o_code⟩, ⟨r_o_waits, k_o_waits⟩, ⟨r_o_tested, k_o_tested⟩, ⟨r_o_stack, k_o_stack⟩, ⟨r_o_facts, k_o_facts⟩, ⟨r_o_sorts, k_o_sorts⟩, ⟨r_o_sizes, k_o_sizes⟩, ⟨r_o_cells, k_o_cells⟩, ⟨r_o_holds, k_o_holds⟩, ⟨r_o_holdsA, k_o_holdsA⟩, ⟨r_o_holdsB, k_o_holdsB⟩, ⟨r_o_heldCells, k_o_heldCells⟩, ⟨r_o_moved, k_o_moved⟩, ⟨r_o_tells, k_o_tells⟩⟩ := id hM
  obtain ⟨b1, b2, b3, b4, b5, b6⟩ := hb
  have e8 : mi o 8 = nI G.1 := hG.1
  have e9 : mi o 9 = nI G.2.1 := hG.2.1
  have e10 : mi o 10 = nI G.2.2.1 := hG.2.2.1
  have ee : nI G.1 - nI G.2.1 = nI (G.1 - G.2.1) := pk_sub b1
  have i1 : nI G.2.2.1 = 1 ↔ G.2.2.1 = 1 := nI_eq (b := 1) (by omega) (by decide)
  have hN : ∀ i, i < 3 → sN i < 5 := by decide
  have fin : ∀ w, w < 3 → keyM b G = nI w → ∀ u3 u4, MW X fX7_takesKey (rmOf 2 0 0) 0 0 110 [some (rf X o), some (.int (nI w)), some (.int (nI (sN w))), u3, u4] [] S mi (mQ X 0 0 (PKy S mi o b len G)) := by
    intro w hw hkm u3 u4
    have k1 : TkG (m_up mi o 13 (nI w)) o G := hG.o (by decide)
    have hB1 : TpM (m_up mi o 13 (nI w)) o b len := ⟨by rw [m_up_ne (by omega)]; exact hB.1, by rw [m_up_of (by decide)]; exact hB.2⟩
    refine mw_aload_n dX7_takesKey_110 rfl ?_
    refine mw_iload_n dX7_takesKey_111 rfl ?_
    refine mw_puti dX7_takesKey_112 fl_X7_219 ft_7_13 rfl (rfl) rfl (by assumption) ?_
    refine mw_aload_n dX7_takesKey_115 rfl ?_
    refine mw_callV (g := fX7_go) dX7_takesKey_116 ml_X7_222 mfX7_go (ok_X7_go hM hB1 b6 k1 b2) k_o rfl rfl (Nat.le_of_ble_eq_true rfl) ⟨by decide, by decide⟩ ⟨by decide, by decide⟩ (fun r S3 m3 hp => ?_)
    obtain ⟨rfl, e2, h3, f3⟩ := hp
    rw [e2]
    refine mw_iconst (v := 1) dX7_takesKey_119 (by decide) ?_
    exact mw_bret dX7_takesKey_120 rfl (by first | exact Or.inl rfl | exact Or.inr rfl | exact b2i_01) (by decide) (by decide) (⟨rfl, Or.inr ⟨by rw [hkm]; exact nI_pos (by omega), rfl, by rw [f3.2 13 (by omega), m_up_at, hkm], h3, fun a ha => by rw [f3.1 a ha, m_up_ne ha], fun j hj => by rw [f3.2 j (by omega), m_up_of (by omega)]⟩⟩)
  have st : ∀ w, w < 3 → G.2.2.1 = 1 → (kmB b G w = true → keyM b G = nI w) → (kmB b G w = false → MW X fX7_takesKey (rmOf 2 0 0) 0 0 12 [some (rf X o), some (.int (nI (w + 1))), none, none, none] [] S mi (mQ X 0 0 (PKy S mi o b len G))) → MW X fX7_takesKey (rmOf 2 0 0) 0 0 12 [some (rf X o), some (.int (nI w)), none, none, none] [] S mi (mQ X 0 0 (PKy S mi o b len G)) := by
    intro w hw ht hy hno
    have hn := hN w hw
    have il : nI (sN w) = nI (G.1 - G.2.1) ↔ sN w = G.1 - G.2.1 := nI_eq (by omega) (by omega)
    have no106 : kmB b G w = false → ∀ u4, MW X fX7_takesKey (rmOf 2 0 0) 0 0 106 [some (rf X o), some (.int (nI w)), some (.int (nI (sN w))), some (.int 0), u4] [] S mi (mQ X 0 0 (PKy S mi o b len G)) := by
      intro h u4
      refine mw_iload_n dX7_takesKey_106 rfl ?_
      refine mw_if_eq (tgt := 121) dX7_takesKey_107 (by decide) (fun h107 => ?_) (fun h107 => ?_)
      · skip
        refine mw_iincK (k := w) dX7_takesKey_121 rfl rfl (by decide) ?_
        refine mw_goto (tgt := 12) dX7_takesKey_124 (by decide) ?_
        exact MW.sub (by simp [lsub]) (hno h)
      · skip
        exact absurd rfl h107
    have no55 : kmB b G w = false → ∀ k : Nat, MW X fX7_takesKey (rmOf 2 0 0) 0 0 55 [some (rf X o), some (.int (nI w)), some (.int (nI (sN w))), some (.int 0), some (.int (nI k))] [] S mi (mQ X 0 0 (PKy S mi o b len G)) := by
      intro h k
      refine mw_iload dX7_takesKey_55 rfl ?_
      refine mw_iload_n dX7_takesKey_57 rfl ?_
      refine mw_icmp_ge (tgt := 106) dX7_takesKey_58 (by decide) (fun h58 => ?_) (fun h58 => ?_)
      · skip
        exact no106 h _
      · skip
        refine mw_iload_n dX7_takesKey_61 rfl ?_
        refine mw_if_eq (tgt := 106) dX7_takesKey_62 (by decide) (fun h62 => ?_) (fun h62 => ?_)
        · skip
          exact no106 h _
        · skip
          exact absurd rfl h62
    have lp : sN w = G.1 - G.2.1 → ∀ f k, f + k = sN w → hrF b G.2.1 w f k = kmB b G w → MW X fX7_takesKey (rmOf 2 0 0) 0 0 55 [some (rf X o), some (.int (nI w)), some (.int (nI (sN w))), some (.int 1), some (.int (nI k))] [] S mi (mQ X 0 0 (PKy S mi o b len G)) := by
      intro hlen f
      induction f with
      | zero =>
        intro k hk hR
        refine mw_iload dX7_takesKey_55 rfl ?_
        refine mw_iload_n dX7_takesKey_57 rfl ?_
        refine mw_icmp_ge (tgt := 106) dX7_takesKey_58 (by decide) (fun h58 => ?_) (fun h58 => ?_)
        · skip
          refine mw_iload_n dX7_takesKey_106 rfl ?_
          refine mw_if_eq (tgt := 121) dX7_takesKey_107 (by decide) (fun h107 => ?_) (fun h107 => ?_)
          · skip
            exact absurd h107 (by decide)
          · skip
            exact fin w hw (hy hR.symm) _ _
        · skip
          exact absurd (nI_le (show sN w ≤ k by omega) (by omega)) h58
      | succ f ih =>
        intro k hk hR
        simp only [hrF] at hR
        obtain ⟨q1, q2⟩ := kat_k w hw k (by omega)
        have ea : nI G.2.1 + nI k = nI (G.2.1 + k) := by rw [nI_add]
        have eb : mi (o + 6) (G.2.1 + k) = b (G.2.1 + k) := by rw [hB.1]
        have ek : mi (o + 8) w = nI (katN w) := h8 w (by omega)
        have ea2 : nI (katN w) + nI k = nI (katN w + k) := by rw [nI_add]
        have e7 : mi (o + 7) (katN w + k) = sB w k := by rw [h7 _ q2, q1]
        refine mw_iload dX7_takesKey_55 rfl ?_
        refine mw_iload_n dX7_takesKey_57 rfl ?_
        refine mw_icmp_ge (tgt := 106) dX7_takesKey_58 (by decide) (fun h58 => ?_) (fun h58 => ?_)
        · skip
          first
            | exact absurd h58 (nI_ge (by omega) (by omega))
            | exact absurd h62 (by decide)
            | fail "stop"
        · skip
          refine mw_iload_n dX7_takesKey_61 rfl ?_
          refine mw_if_eq (tgt := 106) dX7_takesKey_62 (by decide) (fun h62 => ?_) (fun h62 => ?_)
          · skip
            first
              | exact absurd h58 (nI_ge (by omega) (by omega))
              | exact absurd h62 (by decide)
              | fail "stop"
          · skip
            refine mw_aload_n dX7_takesKey_65 rfl ?_
            refine mw_getr dX7_takesKey_66 fl_X7_25 rfl (by assumption) (by assumption) ?_
            refine mw_aload_n dX7_takesKey_69 rfl ?_
            refine mw_geti dX7_takesKey_70 fl_X7_201 rfl (by assumption) ?_
            rw [e9]
            refine mw_iload dX7_takesKey_73 rfl ?_
            refine mw_iadd dX7_takesKey_75 ?_
            rw [ea]
            refine mw_ialdK (k := G.2.1 + k) dX7_takesKey_76 (by assumption) (rfl) (by omega) (by decide) ?_
            rw [eb]
            refine mw_aload_n dX7_takesKey_77 rfl ?_
            refine mw_getr dX7_takesKey_78 fl_X7_28 rfl (by assumption) (by assumption) ?_
            refine mw_aload_n dX7_takesKey_81 rfl ?_
            refine mw_getr dX7_takesKey_82 fl_X7_32 rfl (by assumption) (by assumption) ?_
            refine mw_iload_n dX7_takesKey_85 rfl ?_
            refine mw_ialdK (k := w) dX7_takesKey_86 (by assumption) (rfl) (by omega) (by decide) ?_
            rw [ek]
            refine mw_iload dX7_takesKey_87 rfl ?_
            refine mw_iadd dX7_takesKey_89 ?_
            rw [ea2]
            refine mw_caldK (k := katN w + k) dX7_takesKey_90 (by assumption) (rfl) (by omega) (by decide) ?_
            rw [e7]
            refine mw_icmp_ne (tgt := 98) dX7_takesKey_91 (by decide) (fun h91 => ?_) (fun h91 => ?_)
            · skip
              refine mw_iconst (v := 0) dX7_takesKey_98 (by decide) ?_
              refine mw_istN 3 dX7_takesKey_99 rfl (by decide) ?_
              refine mw_iincK (k := k) dX7_takesKey_100 rfl rfl (by decide) ?_
              refine mw_goto (tgt := 55) dX7_takesKey_103 (by decide) ?_
              first
                | (rw [if_neg h91] at hR; exact no55 hR.symm (k + 1))
                | (rw [if_pos h91] at hR; exact ih (k + 1) (by omega) hR)
                | fail "stop"
            · skip
              refine mw_iconst (v := 1) dX7_takesKey_94 (by decide) ?_
              refine mw_goto (tgt := 99) dX7_takesKey_95 (by decide) ?_
              refine mw_istN 3 dX7_takesKey_99 rfl (by decide) ?_
              refine mw_iincK (k := k) dX7_takesKey_100 rfl rfl (by decide) ?_
              refine mw_goto (tgt := 55) dX7_takesKey_103 (by decide) ?_
              first
                | (rw [if_neg h91] at hR; exact no55 hR.symm (k + 1))
                | (rw [if_pos h91] at hR; exact ih (k + 1) (by omega) hR)
                | fail "stop"
    have es := kat_s w hw
    have ek0 : mi (o + 8) w = nI (katN w) := h8 w (by omega)
    have ek1 : mi (o + 8) (w + 1) = nI (katN (w + 1)) := h8 (w + 1) (by omega)
    refine mw_iload_n dX7_takesKey_12 rfl ?_
    refine mw_iconst (v := 3) dX7_takesKey_13 (by decide) ?_
    refine mw_icmp_ge (tgt := 127) dX7_takesKey_14 (by decide) (fun h14 => ?_) (fun h14 => ?_)
    · skip
      exact absurd h14 (nI_ge (b := 3) hw (by decide))
    · skip
      refine mw_aload_n dX7_takesKey_17 rfl ?_
      refine mw_getr dX7_takesKey_18 fl_X7_32 rfl (by assumption) (by assumption) ?_
      refine mw_iload_n dX7_takesKey_21 rfl ?_
      refine mw_iconst (v := 1) dX7_takesKey_22 (by decide) ?_
      refine mw_iadd dX7_takesKey_23 ?_
      rw [nI_1]
      refine mw_ialdK (k := w + 1) dX7_takesKey_24 (by assumption) (rfl) (by omega) (by decide) ?_
      rw [ek1]
      refine mw_aload_n dX7_takesKey_25 rfl ?_
      refine mw_getr dX7_takesKey_26 fl_X7_32 rfl (by assumption) (by assumption) ?_
      refine mw_iload_n dX7_takesKey_29 rfl ?_
      refine mw_ialdK (k := w) dX7_takesKey_30 (by assumption) (rfl) (by omega) (by decide) ?_
      rw [ek0]
      refine mw_isub dX7_takesKey_31 ?_
      rw [es]
      refine mw_istN 2 dX7_takesKey_32 rfl (by decide) ?_
      refine mw_iload_n dX7_takesKey_33 rfl ?_
      refine mw_aload_n dX7_takesKey_34 rfl ?_
      refine mw_geti dX7_takesKey_35 fl_X7_198 rfl (by assumption) ?_
      rw [e8]
      refine mw_aload_n dX7_takesKey_38 rfl ?_
      refine mw_geti dX7_takesKey_39 fl_X7_201 rfl (by assumption) ?_
      rw [e9]
      refine mw_isub dX7_takesKey_42 ?_
      rw [ee]
      refine mw_icmp_ne (tgt := 50) dX7_takesKey_43 (by decide) (fun h43 => ?_) (fun h43 => ?_)
      · skip
        refine mw_iconst (v := 0) dX7_takesKey_50 (by decide) ?_
        refine mw_istN 3 dX7_takesKey_51 rfl (by decide) ?_
        refine mw_iconst (v := 0) dX7_takesKey_52 (by decide) ?_
        refine mw_istore dX7_takesKey_53 (by decide) ?_
        first
          | exact no55 (by rw [kmB, if_neg (fun g => h43 (il.mpr g.2.symm))]) 0
          | exact lp (il.mp h43) (sN w) 0 rfl (by rw [kmB, if_pos (And.intro ht (il.mp h43).symm)])
          | fail "stop"
      · skip
        refine mw_iconst (v := 1) dX7_takesKey_46 (by decide) ?_
        refine mw_goto (tgt := 51) dX7_takesKey_47 (by decide) ?_
        refine mw_istN 3 dX7_takesKey_51 rfl (by decide) ?_
        refine mw_iconst (v := 0) dX7_takesKey_52 (by decide) ?_
        refine mw_istore dX7_takesKey_53 (by decide) ?_
        first
          | exact no55 (by rw [kmB, if_neg (fun g => h43 (il.mpr g.2.symm))]) 0
          | exact lp (il.mp h43) (sN w) 0 rfl (by rw [kmB, if_pos (And.intro ht (il.mp h43).symm)])
          | fail "stop"
  have e127 : keyM b G < 0 → MW X fX7_takesKey (rmOf 2 0 0) 0 0 12 [some (rf X o), some (.int (nI 3)), none, none, none] [] S mi (mQ X 0 0 (PKy S mi o b len G)) := by
    intro h
    refine mw_iload_n dX7_takesKey_12 rfl ?_
    refine mw_iconst (v := 3) dX7_takesKey_13 (by decide) ?_
    refine mw_icmp_ge (tgt := 127) dX7_takesKey_14 (by decide) (fun h14 => ?_) (fun h14 => ?_)
    · skip
      refine mw_iconst (v := 0) dX7_takesKey_127 (by decide) ?_
      exact mw_bret dX7_takesKey_128 rfl (by first | exact Or.inl rfl | exact Or.inr rfl | exact b2i_01) (by decide) (by decide) (⟨rfl, Or.inl ⟨h, rfl, rfl⟩⟩)
    · skip
      exact absurd (by decide) h14
  refine mw_aload_n dX7_takesKey_0 rfl ?_
  refine mw_geti dX7_takesKey_1 fl_X7_207 rfl (by assumption) ?_
  rw [e10]
  refine mw_iconst (v := 1) dX7_takesKey_4 (by decide) ?_
  refine mw_icmp_eq (tgt := 10) dX7_takesKey_5 (by decide) (fun h5 => ?_) (fun h5 => ?_)
  · skip
    refine mw_iconst (v := 0) dX7_takesKey_10 (by decide) ?_
    refine mw_istN 1 dX7_takesKey_11 rfl (by decide) ?_
    have ht := i1.mp h5
    refine MW.sub (by simp [lsub, nI_0]) (st 0 (by decide) ht (fun g => by rw [keyM, if_pos g]; rfl) (fun g0 => ?_))
    refine st 1 (by decide) ht (fun g => by rw [keyM, if_neg (by rw [g0]; decide), if_pos g]; rfl) (fun g1 => ?_)
    exact st 2 (by decide) ht (fun g => by rw [keyM, if_neg (by rw [g0]; decide), if_neg (by rw [g1]; decide), if_pos g]; rfl) (fun g2 => e127 (by rw [keyM, if_neg (by rw [g0]; decide), if_neg (by rw [g1]; decide), if_neg (by rw [g2]; decide)]; decide))
  · skip
    refine mw_iconst (v := 0) dX7_takesKey_8 (by decide) ?_
    exact mw_bret dX7_takesKey_9 rfl (by first | exact Or.inl rfl | exact Or.inr rfl | exact b2i_01) (by decide) (by decide) (⟨rfl, Or.inl ⟨by have c : ¬ G.2.2.1 = 1 := fun g => h5 (i1.mpr g); have k : ∀ w, kmB b G w = false := fun w => (by rw [kmB, if_neg (fun g => c g.1)]); simp [keyM, k], rfl, rfl⟩⟩)
