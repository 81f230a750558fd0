/-! THE LAW: its cases, its switch, its loop -/
def fL (nm : String) : Fr := (⟨RL, nm, "([I)Z"⟩, code, 4, ret)
abbrev sA (X : Xb) : Nat := X.2.2.2.2.2.2.1
abbrev sL (X : Xb) : Nat := X.2.2.2.2.2.2.2.1
abbrev sX (X : Xb) : Nat → Int32 := X.2.2.2.2.2.2.2.2
abbrev lwL (X : Xb) (x i : Nat) : List (Option Value) := [some (.ref (sA X)), some (rf X x), some (rf X (x + 87)), some (.int (nI i))]
abbrev AL (pc k : Nat) : Prop := decode code pc = .ok (.aload_n 0, 1) ∧ decode code (pc + 1) = .ok (.iload_n 3, 1) ∧ decode code (pc + 2) = .ok (.iconst (k : Int), 1) ∧ decode code (pc + 3) = .ok (.iadd, 1) ∧ decode code (pc + 4) = .ok (.iaload, 1)
abbrev DL (pc n idx6 idx7 : Nat) (off : Int) : Prop := decode code pc = .ok (.aload_n 1, 1) ∧ (∀ k, k < n → AL (pc + 1 + 5 * k) (k + 1)) ∧ decode code (pc + 1 + 5 * n) = .ok (.invokevirtual idx6, 3) ∧ decode code (pc + 1 + 5 * n + 3) = .ok (.aload_n 2, 1) ∧ (∀ k, k < n → AL (pc + 1 + 5 * n + 3 + 1 + 5 * k) (k + 1)) ∧ decode code (pc + 1 + 5 * n + 3 + 1 + 5 * n) = .ok (.invokevirtual idx7, 3) ∧ decode code (pc + 1 + 5 * n + 3 + 1 + 5 * n + 3) = .ok (.if_icmp .eq off, 3)
section LWA
variable {X : Xb} {nm : String} {R : Room} {kc sl pc : Nat} {st : List Value} {S : Sg} {mi : Mem} {Q : Qt} {x i : Nat}
theorem mw_arg {k : Nat} (d : AL pc k) (hi : i + k < sL X) (hL : sL X ≤ 3072) (kk : MW X (fL nm) R kc sl (pc + 5) (lwL X x i) (.int (sX X (i + k)) :: st) S mi Q) : MW X (fL nm) R kc sl pc (lwL X x i) st S mi Q := by
  obtain ⟨d0, d1, d2, d3, d4⟩ := d
  refine mw_aload_n d0 rfl ?_
  refine mw_iload_n d1 rfl ?_
  refine mw_iconst (v := nI k) d2 rfl ?_
  refine mw_iadd d3 ?_
  rw [nI_add]
  refine mw_sld d4 (vp_in_nI hi (Nat.lt_of_le_of_lt hL (by decide))) ?_
  rw [nI_clamp (by omega)]
  exact kk
def lwA (X : Xb) (i n : Nat) : List Value := (List.range n).map (fun k => .int (sX X (i + (k + 1))))
theorem lwA_len (X : Xb) (i n : Nat) : (lwA X i n).length = n := by simp [lwA]
theorem lwA_s (X : Xb) (i n : Nat) : (lwA X i (n + 1)).reverse = .int (sX X (i + (n + 1))) :: (lwA X i n).reverse := by
  unfold lwA
  rw [List.range_succ, List.map_append, List.reverse_append]
  rfl
theorem mw_args (hL : sL X ≤ 3072) : ∀ (n pc : Nat) (st : List Value), (∀ k, k < n → AL (pc + 5 * k) (k + 1)) → i + n < sL X → MW X (fL nm) R kc sl (pc + 5 * n) (lwL X x i) ((lwA X i n).reverse ++ st) S mi Q → MW X (fL nm) R kc sl pc (lwL X x i) st S mi Q
  | 0, _, _, _, _, kk => kk
  | n + 1, pc, st, hd, hi, kk => by
    refine mw_args hL n pc st (fun k hk => hd k (by omega)) (by omega) ?_
    refine mw_arg (k := n + 1) (hd n (by omega)) hi hL ?_
    rw [lwA_s] at kk
    exact kk
theorem lw_case {n d6 mc ms d7 idx6 idx7 : Nat} {off : Int} {f6 f7 : Fr} {m : Mem} (hd : DL pc n idx6 idx7 off) (hoff : ((pc + 1 + 5 * n + 3 + 1 + 5 * n + 3 : Nat) : Int) + off = ((1539 : Nat) : Int)) (hn : n ≤ 5) (hL : sL X ≤ 3072) (hi : i + 5 < sL X) (l6 : Cond.methodLink RL idx6 f6.1 ∈ TW) (l7 : Cond.methodLink RL idx7 f7.1 ∈ TW) (m6 : MFV f6 n 6) (m7 : MFV f7 n 7) (hR : d6 ≤ 300 ∧ d7 ≤ 300 ∧ mc ≤ 2 ∧ ms ≤ 99) (hk : kc ≤ 2000 ∧ sl ≤ 100000) (hI : Inv S m x) (hs : CStep d6 mc ms d7 f6 f7 X (lwA X i n) S m x)
    (kk : ∀ S2 m2, Inv S2 m2 x → MW X (fL nm) room_1 (kc + 2) (sl + 99) 1539 (lwL X x i) [] S2 m2 Q) : MW X (fL nm) room_1 kc sl pc (lwL X x i) [] S m Q := by
  obtain ⟨e1, e2, e3, e4, e5, e6, e7⟩ := hd
  obtain ⟨r1, r2, r3, r4⟩ := hR
  obtain ⟨k1, k2⟩ := hk
  refine mw_aload_n e1 rfl ?_
  refine mw_args hL n (pc + 1) _ e2 (by omega) ?_
  refine mw_callV (g := f6) (ci := 6) (i := x) (z := 0) (st := []) (As := lwA X i n) e3 l6 m6 hs hI.1.1.1 (lwA_len X i n) rfl (Nat.zero_le _) ⟨by show d6 + 1 ≤ 2048; omega, by show 40 + 40 * d6 ≤ 84000; omega⟩ ⟨by show kc + mc ≤ 600000; omega, by show sl + ms ≤ 7302250; omega⟩ (fun r S1 m1 hp => ?_)
  obtain ⟨a, rfl, k6, k7, h7⟩ := hp
  refine mw_aload_n e4 rfl ?_
  refine mw_args hL n _ _ e5 (by omega) ?_
  refine mw_callV (g := f7) (ci := 7) (i := x + 87) (z := 0) (st := [.int a]) (As := lwA X i n) e6 l7 m7 h7 k7 (lwA_len X i n) rfl (Nat.le_of_ble_eq_true rfl) ⟨by show d7 + 1 ≤ 2048; omega, by show 40 + 40 * d7 ≤ 84000; omega⟩ ⟨by show kc + mc + 0 ≤ 600000; omega, by show sl + ms + 0 ≤ 7302250; omega⟩ (fun r S2 m2 hp => ?_)
  obtain ⟨rfl, hI2, _⟩ := hp
  refine mw_icmp_eq (tgt := 1539) e7 hoff (fun _ => ?_) (fun h => absurd rfl h)
  exact MW.widen (by omega) (by omega) (kk S2 m2 hI2)
end LWA
abbrev offL : Array Int := #[187, 230, 263, 296, 329, 372, 415, 448, 481, 504, 537, 560, 583, 606, 629, 652, 685, 718, 751, 794, 827, 870, 903, 916, 939, 982, 1005, 1018, 1051, 1074, 1117, 1160, 1183, 1206, 1269, 1312, 1345, 1378, 1411, 1434, 1457, 1470, 1483]
theorem dL_0 : decode code 0 = .ok (.new 7, 3) := by decide +kernel
theorem dL_3 : decode code 3 = .ok (.dup, 1) := by decide +kernel
theorem dL_4 : decode code 4 = .ok (.invokespecial 9, 3) := by decide +kernel
theorem dL_7 : decode code 7 = .ok (.astore_n 1, 1) := by decide +kernel
theorem dL_8 : decode code 8 = .ok (.new 10, 3) := by decide +kernel
theorem dL_11 : decode code 11 = .ok (.dup, 1) := by decide +kernel
theorem dL_12 : decode code 12 = .ok (.invokespecial 12, 3) := by decide +kernel
theorem dL_15 : decode code 15 = .ok (.astore_n 2, 1) := by decide +kernel
theorem dL_16 : decode code 16 = .ok (.iconst 0, 1) := by decide +kernel
theorem dL_17 : decode code 17 = .ok (.istore_n 3, 1) := by decide +kernel
theorem dL_18 : decode code 18 = .ok (.iload_n 3, 1) := by decide +kernel
theorem dL_19 : decode code 19 = .ok (.aload_n 0, 1) := by decide +kernel
theorem dL_20 : decode code 20 = .ok (.arraylength, 1) := by decide +kernel
theorem dL_21 : decode code 21 = .ok (.bipush 6, 2) := by decide +kernel
theorem dL_23 : decode code 23 = .ok (.isub, 1) := by decide +kernel
theorem dL_24 : decode code 24 = .ok (.if_icmp .gt 1521, 3) := by decide +kernel
theorem dL_27 : decode code 27 = .ok (.aload_n 0, 1) := by decide +kernel
theorem dL_28 : decode code 28 = .ok (.iload_n 3, 1) := by decide +kernel
theorem dL_29 : decode code 29 = .ok (.iaload, 1) := by decide +kernel
theorem dL_30 : decode code 30 = .ok (.bipush 63, 2) := by decide +kernel
theorem dL_32 : decode code 32 = .ok (.iand, 1) := by decide +kernel
theorem dL_1539 : decode code 1539 = .ok (.iinc 3 6, 3) := by decide +kernel
theorem dL_1542 : decode code 1542 = .ok (.goto (-1524), 3) := by decide +kernel
theorem dL_1545 : decode code 1545 = .ok (.iconst 1, 1) := by decide +kernel
theorem dL_1546 : decode code 1546 = .ok (.ireturn, 1) := by decide +kernel
theorem dL_33 : decode code 33 = .ok (.tableswitch 1506 0 42 offL, 187) := by decide +kernel
theorem dL_c0 : DL 220 3 13 17 1281 :=
  ⟨by decide +kernel, fun k hk => by
    have h : k = 0 ∨ k = 1 ∨ k = 2 := by omega
    rcases h with rfl | rfl | rfl <;> exact ⟨by decide +kernel, by decide +kernel, by decide +kernel, by decide +kernel, by decide +kernel⟩,
  by decide +kernel, by decide +kernel, fun k hk => by
    have h : k = 0 ∨ k = 1 ∨ k = 2 := by omega
    rcases h with rfl | rfl | rfl <;> exact ⟨by decide +kernel, by decide +kernel, by decide +kernel, by decide +kernel, by decide +kernel⟩,
  by decide +kernel, by decide +kernel⟩
theorem dL_c1 : DL 263 2 18 22 1248 :=
  ⟨by decide +kernel, fun k hk => by
    have h : k = 0 ∨ k = 1 := by omega
    rcases h with rfl | rfl <;> exact ⟨by decide +kernel, by decide +kernel, by decide +kernel, by decide +kernel, by decide +kernel⟩,
  by decide +kernel, by decide +kernel, fun k hk => by
    have h : k = 0 ∨ k = 1 := by omega
    rcases h with rfl | rfl <;> exact ⟨by decide +kernel, by decide +kernel, by decide +kernel, by decide +kernel, by decide +kernel⟩,
  by decide +kernel, by decide +kernel⟩
theorem dL_c2 : DL 296 2 23 26 1215 :=
  ⟨by decide +kernel, fun k hk => by
    have h : k = 0 ∨ k = 1 := by omega
    rcases h with rfl | rfl <;> exact ⟨by decide +kernel, by decide +kernel, by decide +kernel, by decide +kernel, by decide +kernel⟩,
  by decide +kernel, by decide +kernel, fun k hk => by
    have h : k = 0 ∨ k = 1 := by omega
    rcases h with rfl | rfl <;> exact ⟨by decide +kernel, by decide +kernel, by decide +kernel, by decide +kernel, by decide +kernel⟩,
  by decide +kernel, by decide +kernel⟩
theorem dL_c3 : DL 329 2 27 30 1182 :=
  ⟨by decide +kernel, fun k hk => by
    have h : k = 0 ∨ k = 1 := by omega
    rcases h with rfl | rfl <;> exact ⟨by decide +kernel, by decide +kernel, by decide +kernel, by decide +kernel, by decide +kernel⟩,
  by decide +kernel, by decide +kernel, fun k hk => by
    have h : k = 0 ∨ k = 1 := by omega
    rcases h with rfl | rfl <;> exact ⟨by decide +kernel, by decide +kernel, by decide +kernel, by decide +kernel, by decide +kernel⟩,
  by decide +kernel, by decide +kernel⟩
theorem dL_c4 : DL 362 3 31 34 1139 :=
  ⟨by decide +kernel, fun k hk => by
    have h : k = 0 ∨ k = 1 ∨ k = 2 := by omega
    rcases h with rfl | rfl | rfl <;> exact ⟨by decide +kernel, by decide +kernel, by decide +kernel, by decide +kernel, by decide +kernel⟩,
  by decide +kernel, by decide +kernel, fun k hk => by
    have h : k = 0 ∨ k = 1 ∨ k = 2 := by omega
    rcases h with rfl | rfl | rfl <;> exact ⟨by decide +kernel, by decide +kernel, by decide +kernel, by decide +kernel, by decide +kernel⟩,
  by decide +kernel, by decide +kernel⟩
theorem dL_c5 : DL 405 3 35 38 1096 :=
  ⟨by decide +kernel, fun k hk => by
    have h : k = 0 ∨ k = 1 ∨ k = 2 := by omega
    rcases h with rfl | rfl | rfl <;> exact ⟨by decide +kernel, by decide +kernel, by decide +kernel, by decide +kernel, by decide +kernel⟩,
  by decide +kernel, by decide +kernel, fun k hk => by
    have h : k = 0 ∨ k = 1 ∨ k = 2 := by omega
    rcases h with rfl | rfl | rfl <;> exact ⟨by decide +kernel, by decide +kernel, by decide +kernel, by decide +kernel, by decide +kernel⟩,
  by decide +kernel, by decide +kernel⟩
theorem dL_c6 : DL 448 2 39 42 1063 :=
  ⟨by decide +kernel, fun k hk => by
    have h : k = 0 ∨ k = 1 := by omega
    rcases h with rfl | rfl <;> exact ⟨by decide +kernel, by decide +kernel, by decide +kernel, by decide +kernel, by decide +kernel⟩,
  by decide +kernel, by decide +kernel, fun k hk => by
    have h : k = 0 ∨ k = 1 := by omega
    rcases h with rfl | rfl <;> exact ⟨by decide +kernel, by decide +kernel, by decide +kernel, by decide +kernel, by decide +kernel⟩,
  by decide +kernel, by decide +kernel⟩
theorem dL_c7 : DL 481 2 43 46 1030 :=
  ⟨by decide +kernel, fun k hk => by
    have h : k = 0 ∨ k = 1 := by omega
    rcases h with rfl | rfl <;> exact ⟨by decide +kernel, by decide +kernel, by decide +kernel, by decide +kernel, by decide +kernel⟩,
  by decide +kernel, by decide +kernel, fun k hk => by
    have h : k = 0 ∨ k = 1 := by omega
    rcases h with rfl | rfl <;> exact ⟨by decide +kernel, by decide +kernel, by decide +kernel, by decide +kernel, by decide +kernel⟩,
  by decide +kernel, by decide +kernel⟩
theorem dL_c8 : DL 514 1 47 51 1007 :=
  ⟨by decide +kernel, fun k hk => by
    have h : k = 0 := by omega
    rcases h with rfl <;> exact ⟨by decide +kernel, by decide +kernel, by decide +kernel, by decide +kernel, by decide +kernel⟩,
  by decide +kernel, by decide +kernel, fun k hk => by
    have h : k = 0 := by omega
    rcases h with rfl <;> exact ⟨by decide +kernel, by decide +kernel, by decide +kernel, by decide +kernel, by decide +kernel⟩,
  by decide +kernel, by decide +kernel⟩
theorem dL_c9 : DL 537 2 52 55 974 :=
  ⟨by decide +kernel, fun k hk => by
    have h : k = 0 ∨ k = 1 := by omega
    rcases h with rfl | rfl <;> exact ⟨by decide +kernel, by decide +kernel, by decide +kernel, by decide +kernel, by decide +kernel⟩,
  by decide +kernel, by decide +kernel, fun k hk => by
    have h : k = 0 ∨ k = 1 := by omega
    rcases h with rfl | rfl <;> exact ⟨by decide +kernel, by decide +kernel, by decide +kernel, by decide +kernel, by decide +kernel⟩,
  by decide +kernel, by decide +kernel⟩
theorem dL_c10 : DL 570 1 56 59 951 :=
  ⟨by decide +kernel, fun k hk => by
    have h : k = 0 := by omega
    rcases h with rfl <;> exact ⟨by decide +kernel, by decide +kernel, by decide +kernel, by decide +kernel, by decide +kernel⟩,
  by decide +kernel, by decide +kernel, fun k hk => by
    have h : k = 0 := by omega
    rcases h with rfl <;> exact ⟨by decide +kernel, by decide +kernel, by decide +kernel, by decide +kernel, by decide +kernel⟩,
  by decide +kernel, by decide +kernel⟩
theorem dL_c11 : DL 593 1 60 63 928 :=
  ⟨by decide +kernel, fun k hk => by
    have h : k = 0 := by omega
    rcases h with rfl <;> exact ⟨by decide +kernel, by decide +kernel, by decide +kernel, by decide +kernel, by decide +kernel⟩,
  by decide +kernel, by decide +kernel, fun k hk => by
    have h : k = 0 := by omega
    rcases h with rfl <;> exact ⟨by decide +kernel, by decide +kernel, by decide +kernel, by decide +kernel, by decide +kernel⟩,
  by decide +kernel, by decide +kernel⟩
theorem dL_c12 : DL 616 1 64 67 905 :=
  ⟨by decide +kernel, fun k hk => by
    have h : k = 0 := by omega
    rcases h with rfl <;> exact ⟨by decide +kernel, by decide +kernel, by decide +kernel, by decide +kernel, by decide +kernel⟩,
  by decide +kernel, by decide +kernel, fun k hk => by
    have h : k = 0 := by omega
    rcases h with rfl <;> exact ⟨by decide +kernel, by decide +kernel, by decide +kernel, by decide +kernel, by decide +kernel⟩,
  by decide +kernel, by decide +kernel⟩
theorem dL_c13 : DL 639 1 68 71 882 :=
  ⟨by decide +kernel, fun k hk => by
    have h : k = 0 := by omega
    rcases h with rfl <;> exact ⟨by decide +kernel, by decide +kernel, by decide +kernel, by decide +kernel, by decide +kernel⟩,
  by decide +kernel, by decide +kernel, fun k hk => by
    have h : k = 0 := by omega
    rcases h with rfl <;> exact ⟨by decide +kernel, by decide +kernel, by decide +kernel, by decide +kernel, by decide +kernel⟩,
  by decide +kernel, by decide +kernel⟩
theorem dL_c14 : DL 662 1 72 75 859 :=
  ⟨by decide +kernel, fun k hk => by
    have h : k = 0 := by omega
    rcases h with rfl <;> exact ⟨by decide +kernel, by decide +kernel, by decide +kernel, by decide +kernel, by decide +kernel⟩,
  by decide +kernel, by decide +kernel, fun k hk => by
    have h : k = 0 := by omega
    rcases h with rfl <;> exact ⟨by decide +kernel, by decide +kernel, by decide +kernel, by decide +kernel, by decide +kernel⟩,
  by decide +kernel, by decide +kernel⟩
theorem dL_c15 : DL 685 2 76 79 826 :=
  ⟨by decide +kernel, fun k hk => by
    have h : k = 0 ∨ k = 1 := by omega
    rcases h with rfl | rfl <;> exact ⟨by decide +kernel, by decide +kernel, by decide +kernel, by decide +kernel, by decide +kernel⟩,
  by decide +kernel, by decide +kernel, fun k hk => by
    have h : k = 0 ∨ k = 1 := by omega
    rcases h with rfl | rfl <;> exact ⟨by decide +kernel, by decide +kernel, by decide +kernel, by decide +kernel, by decide +kernel⟩,
  by decide +kernel, by decide +kernel⟩
theorem dL_c16 : DL 718 2 80 83 793 :=
  ⟨by decide +kernel, fun k hk => by
    have h : k = 0 ∨ k = 1 := by omega
    rcases h with rfl | rfl <;> exact ⟨by decide +kernel, by decide +kernel, by decide +kernel, by decide +kernel, by decide +kernel⟩,
  by decide +kernel, by decide +kernel, fun k hk => by
    have h : k = 0 ∨ k = 1 := by omega
    rcases h with rfl | rfl <;> exact ⟨by decide +kernel, by decide +kernel, by decide +kernel, by decide +kernel, by decide +kernel⟩,
  by decide +kernel, by decide +kernel⟩
theorem dL_c17 : DL 751 2 84 87 760 :=
  ⟨by decide +kernel, fun k hk => by
    have h : k = 0 ∨ k = 1 := by omega
    rcases h with rfl | rfl <;> exact ⟨by decide +kernel, by decide +kernel, by decide +kernel, by decide +kernel, by decide +kernel⟩,
  by decide +kernel, by decide +kernel, fun k hk => by
    have h : k = 0 ∨ k = 1 := by omega
    rcases h with rfl | rfl <;> exact ⟨by decide +kernel, by decide +kernel, by decide +kernel, by decide +kernel, by decide +kernel⟩,
  by decide +kernel, by decide +kernel⟩
theorem dL_c18 : DL 784 3 88 91 717 :=
  ⟨by decide +kernel, fun k hk => by
    have h : k = 0 ∨ k = 1 ∨ k = 2 := by omega
    rcases h with rfl | rfl | rfl <;> exact ⟨by decide +kernel, by decide +kernel, by decide +kernel, by decide +kernel, by decide +kernel⟩,
  by decide +kernel, by decide +kernel, fun k hk => by
    have h : k = 0 ∨ k = 1 ∨ k = 2 := by omega
    rcases h with rfl | rfl | rfl <;> exact ⟨by decide +kernel, by decide +kernel, by decide +kernel, by decide +kernel, by decide +kernel⟩,
  by decide +kernel, by decide +kernel⟩
theorem dL_c19 : DL 827 2 92 95 684 :=
  ⟨by decide +kernel, fun k hk => by
    have h : k = 0 ∨ k = 1 := by omega
    rcases h with rfl | rfl <;> exact ⟨by decide +kernel, by decide +kernel, by decide +kernel, by decide +kernel, by decide +kernel⟩,
  by decide +kernel, by decide +kernel, fun k hk => by
    have h : k = 0 ∨ k = 1 := by omega
    rcases h with rfl | rfl <;> exact ⟨by decide +kernel, by decide +kernel, by decide +kernel, by decide +kernel, by decide +kernel⟩,
  by decide +kernel, by decide +kernel⟩
theorem dL_c20 : DL 860 3 96 99 641 :=
  ⟨by decide +kernel, fun k hk => by
    have h : k = 0 ∨ k = 1 ∨ k = 2 := by omega
    rcases h with rfl | rfl | rfl <;> exact ⟨by decide +kernel, by decide +kernel, by decide +kernel, by decide +kernel, by decide +kernel⟩,
  by decide +kernel, by decide +kernel, fun k hk => by
    have h : k = 0 ∨ k = 1 ∨ k = 2 := by omega
    rcases h with rfl | rfl | rfl <;> exact ⟨by decide +kernel, by decide +kernel, by decide +kernel, by decide +kernel, by decide +kernel⟩,
  by decide +kernel, by decide +kernel⟩
theorem dL_c21 : DL 903 2 100 103 608 :=
  ⟨by decide +kernel, fun k hk => by
    have h : k = 0 ∨ k = 1 := by omega
    rcases h with rfl | rfl <;> exact ⟨by decide +kernel, by decide +kernel, by decide +kernel, by decide +kernel, by decide +kernel⟩,
  by decide +kernel, by decide +kernel, fun k hk => by
    have h : k = 0 ∨ k = 1 := by omega
    rcases h with rfl | rfl <;> exact ⟨by decide +kernel, by decide +kernel, by decide +kernel, by decide +kernel, by decide +kernel⟩,
  by decide +kernel, by decide +kernel⟩
theorem dL_c22 : DL 936 0 104 108 595 :=
  ⟨by decide +kernel, fun k hk => absurd hk (Nat.not_lt_zero k),
  by decide +kernel, by decide +kernel, fun k hk => absurd hk (Nat.not_lt_zero k),
  by decide +kernel, by decide +kernel⟩
theorem dL_c23 : DL 949 1 109 112 572 :=
  ⟨by decide +kernel, fun k hk => by
    have h : k = 0 := by omega
    rcases h with rfl <;> exact ⟨by decide +kernel, by decide +kernel, by decide +kernel, by decide +kernel, by decide +kernel⟩,
  by decide +kernel, by decide +kernel, fun k hk => by
    have h : k = 0 := by omega
    rcases h with rfl <;> exact ⟨by decide +kernel, by decide +kernel, by decide +kernel, by decide +kernel, by decide +kernel⟩,
  by decide +kernel, by decide +kernel⟩
theorem dL_c24 : DL 972 3 113 116 529 :=
  ⟨by decide +kernel, fun k hk => by
    have h : k = 0 ∨ k = 1 ∨ k = 2 := by omega
    rcases h with rfl | rfl | rfl <;> exact ⟨by decide +kernel, by decide +kernel, by decide +kernel, by decide +kernel, by decide +kernel⟩,
  by decide +kernel, by decide +kernel, fun k hk => by
    have h : k = 0 ∨ k = 1 ∨ k = 2 := by omega
    rcases h with rfl | rfl | rfl <;> exact ⟨by decide +kernel, by decide +kernel, by decide +kernel, by decide +kernel, by decide +kernel⟩,
  by decide +kernel, by decide +kernel⟩
theorem dL_c25 : DL 1015 1 117 120 506 :=
  ⟨by decide +kernel, fun k hk => by
    have h : k = 0 := by omega
    rcases h with rfl <;> exact ⟨by decide +kernel, by decide +kernel, by decide +kernel, by decide +kernel, by decide +kernel⟩,
  by decide +kernel, by decide +kernel, fun k hk => by
    have h : k = 0 := by omega
    rcases h with rfl <;> exact ⟨by decide +kernel, by decide +kernel, by decide +kernel, by decide +kernel, by decide +kernel⟩,
  by decide +kernel, by decide +kernel⟩
theorem dL_c26 : DL 1038 0 121 124 493 :=
  ⟨by decide +kernel, fun k hk => absurd hk (Nat.not_lt_zero k),
  by decide +kernel, by decide +kernel, fun k hk => absurd hk (Nat.not_lt_zero k),
  by decide +kernel, by decide +kernel⟩
theorem dL_c27 : DL 1051 2 125 128 460 :=
  ⟨by decide +kernel, fun k hk => by
    have h : k = 0 ∨ k = 1 := by omega
    rcases h with rfl | rfl <;> exact ⟨by decide +kernel, by decide +kernel, by decide +kernel, by decide +kernel, by decide +kernel⟩,
  by decide +kernel, by decide +kernel, fun k hk => by
    have h : k = 0 ∨ k = 1 := by omega
    rcases h with rfl | rfl <;> exact ⟨by decide +kernel, by decide +kernel, by decide +kernel, by decide +kernel, by decide +kernel⟩,
  by decide +kernel, by decide +kernel⟩
theorem dL_c28 : DL 1084 1 129 132 437 :=
  ⟨by decide +kernel, fun k hk => by
    have h : k = 0 := by omega
    rcases h with rfl <;> exact ⟨by decide +kernel, by decide +kernel, by decide +kernel, by decide +kernel, by decide +kernel⟩,
  by decide +kernel, by decide +kernel, fun k hk => by
    have h : k = 0 := by omega
    rcases h with rfl <;> exact ⟨by decide +kernel, by decide +kernel, by decide +kernel, by decide +kernel, by decide +kernel⟩,
  by decide +kernel, by decide +kernel⟩
theorem dL_c29 : DL 1107 3 133 136 394 :=
  ⟨by decide +kernel, fun k hk => by
    have h : k = 0 ∨ k = 1 ∨ k = 2 := by omega
    rcases h with rfl | rfl | rfl <;> exact ⟨by decide +kernel, by decide +kernel, by decide +kernel, by decide +kernel, by decide +kernel⟩,
  by decide +kernel, by decide +kernel, fun k hk => by
    have h : k = 0 ∨ k = 1 ∨ k = 2 := by omega
    rcases h with rfl | rfl | rfl <;> exact ⟨by decide +kernel, by decide +kernel, by decide +kernel, by decide +kernel, by decide +kernel⟩,
  by decide +kernel, by decide +kernel⟩
theorem dL_c30 : DL 1150 3 137 140 351 :=
  ⟨by decide +kernel, fun k hk => by
    have h : k = 0 ∨ k = 1 ∨ k = 2 := by omega
    rcases h with rfl | rfl | rfl <;> exact ⟨by decide +kernel, by decide +kernel, by decide +kernel, by decide +kernel, by decide +kernel⟩,
  by decide +kernel, by decide +kernel, fun k hk => by
    have h : k = 0 ∨ k = 1 ∨ k = 2 := by omega
    rcases h with rfl | rfl | rfl <;> exact ⟨by decide +kernel, by decide +kernel, by decide +kernel, by decide +kernel, by decide +kernel⟩,
  by decide +kernel, by decide +kernel⟩
theorem dL_c31 : DL 1193 1 141 144 328 :=
  ⟨by decide +kernel, fun k hk => by
    have h : k = 0 := by omega
    rcases h with rfl <;> exact ⟨by decide +kernel, by decide +kernel, by decide +kernel, by decide +kernel, by decide +kernel⟩,
  by decide +kernel, by decide +kernel, fun k hk => by
    have h : k = 0 := by omega
    rcases h with rfl <;> exact ⟨by decide +kernel, by decide +kernel, by decide +kernel, by decide +kernel, by decide +kernel⟩,
  by decide +kernel, by decide +kernel⟩
theorem dL_c32 : DL 1216 1 145 148 305 :=
  ⟨by decide +kernel, fun k hk => by
    have h : k = 0 := by omega
    rcases h with rfl <;> exact ⟨by decide +kernel, by decide +kernel, by decide +kernel, by decide +kernel, by decide +kernel⟩,
  by decide +kernel, by decide +kernel, fun k hk => by
    have h : k = 0 := by omega
    rcases h with rfl <;> exact ⟨by decide +kernel, by decide +kernel, by decide +kernel, by decide +kernel, by decide +kernel⟩,
  by decide +kernel, by decide +kernel⟩
theorem dL_c33 : DL 1239 5 149 153 242 :=
  ⟨by decide +kernel, fun k hk => by
    have h : k = 0 ∨ k = 1 ∨ k = 2 ∨ k = 3 ∨ k = 4 := by omega
    rcases h with rfl | rfl | rfl | rfl | rfl <;> exact ⟨by decide +kernel, by decide +kernel, by decide +kernel, by decide +kernel, by decide +kernel⟩,
  by decide +kernel, by decide +kernel, fun k hk => by
    have h : k = 0 ∨ k = 1 ∨ k = 2 ∨ k = 3 ∨ k = 4 := by omega
    rcases h with rfl | rfl | rfl | rfl | rfl <;> exact ⟨by decide +kernel, by decide +kernel, by decide +kernel, by decide +kernel, by decide +kernel⟩,
  by decide +kernel, by decide +kernel⟩
theorem dL_c34 : DL 1302 3 154 157 199 :=
  ⟨by decide +kernel, fun k hk => by
    have h : k = 0 ∨ k = 1 ∨ k = 2 := by omega
    rcases h with rfl | rfl | rfl <;> exact ⟨by decide +kernel, by decide +kernel, by decide +kernel, by decide +kernel, by decide +kernel⟩,
  by decide +kernel, by decide +kernel, fun k hk => by
    have h : k = 0 ∨ k = 1 ∨ k = 2 := by omega
    rcases h with rfl | rfl | rfl <;> exact ⟨by decide +kernel, by decide +kernel, by decide +kernel, by decide +kernel, by decide +kernel⟩,
  by decide +kernel, by decide +kernel⟩
theorem dL_c35 : DL 1345 2 158 161 166 :=
  ⟨by decide +kernel, fun k hk => by
    have h : k = 0 ∨ k = 1 := by omega
    rcases h with rfl | rfl <;> exact ⟨by decide +kernel, by decide +kernel, by decide +kernel, by decide +kernel, by decide +kernel⟩,
  by decide +kernel, by decide +kernel, fun k hk => by
    have h : k = 0 ∨ k = 1 := by omega
    rcases h with rfl | rfl <;> exact ⟨by decide +kernel, by decide +kernel, by decide +kernel, by decide +kernel, by decide +kernel⟩,
  by decide +kernel, by decide +kernel⟩
theorem dL_c36 : DL 1378 2 162 165 133 :=
  ⟨by decide +kernel, fun k hk => by
    have h : k = 0 ∨ k = 1 := by omega
    rcases h with rfl | rfl <;> exact ⟨by decide +kernel, by decide +kernel, by decide +kernel, by decide +kernel, by decide +kernel⟩,
  by decide +kernel, by decide +kernel, fun k hk => by
    have h : k = 0 ∨ k = 1 := by omega
    rcases h with rfl | rfl <;> exact ⟨by decide +kernel, by decide +kernel, by decide +kernel, by decide +kernel, by decide +kernel⟩,
  by decide +kernel, by decide +kernel⟩
theorem dL_c37 : DL 1411 2 166 169 100 :=
  ⟨by decide +kernel, fun k hk => by
    have h : k = 0 ∨ k = 1 := by omega
    rcases h with rfl | rfl <;> exact ⟨by decide +kernel, by decide +kernel, by decide +kernel, by decide +kernel, by decide +kernel⟩,
  by decide +kernel, by decide +kernel, fun k hk => by
    have h : k = 0 ∨ k = 1 := by omega
    rcases h with rfl | rfl <;> exact ⟨by decide +kernel, by decide +kernel, by decide +kernel, by decide +kernel, by decide +kernel⟩,
  by decide +kernel, by decide +kernel⟩
theorem dL_c38 : DL 1444 1 170 173 77 :=
  ⟨by decide +kernel, fun k hk => by
    have h : k = 0 := by omega
    rcases h with rfl <;> exact ⟨by decide +kernel, by decide +kernel, by decide +kernel, by decide +kernel, by decide +kernel⟩,
  by decide +kernel, by decide +kernel, fun k hk => by
    have h : k = 0 := by omega
    rcases h with rfl <;> exact ⟨by decide +kernel, by decide +kernel, by decide +kernel, by decide +kernel, by decide +kernel⟩,
  by decide +kernel, by decide +kernel⟩
theorem dL_c39 : DL 1467 1 174 177 54 :=
  ⟨by decide +kernel, fun k hk => by
    have h : k = 0 := by omega
    rcases h with rfl <;> exact ⟨by decide +kernel, by decide +kernel, by decide +kernel, by decide +kernel, by decide +kernel⟩,
  by decide +kernel, by decide +kernel, fun k hk => by
    have h : k = 0 := by omega
    rcases h with rfl <;> exact ⟨by decide +kernel, by decide +kernel, by decide +kernel, by decide +kernel, by decide +kernel⟩,
  by decide +kernel, by decide +kernel⟩
theorem dL_c40 : DL 1490 0 178 181 41 :=
  ⟨by decide +kernel, fun k hk => absurd hk (Nat.not_lt_zero k),
  by decide +kernel, by decide +kernel, fun k hk => absurd hk (Nat.not_lt_zero k),
  by decide +kernel, by decide +kernel⟩
theorem dL_c41 : DL 1503 0 182 185 28 :=
  ⟨by decide +kernel, fun k hk => absurd hk (Nat.not_lt_zero k),
  by decide +kernel, by decide +kernel, fun k hk => absurd hk (Nat.not_lt_zero k),
  by decide +kernel, by decide +kernel⟩
theorem dL_c42 : DL 1516 1 186 189 5 :=
  ⟨by decide +kernel, fun k hk => by
    have h : k = 0 := by omega
    rcases h with rfl <;> exact ⟨by decide +kernel, by decide +kernel, by decide +kernel, by decide +kernel, by decide +kernel⟩,
  by decide +kernel, by decide +kernel, fun k hk => by
    have h : k = 0 := by omega
    rcases h with rfl <;> exact ⟨by decide +kernel, by decide +kernel, by decide +kernel, by decide +kernel, by decide +kernel⟩,
  by decide +kernel, by decide +kernel⟩
section LWB
variable {X : Xb} {nm : String} {kc sl : Nat} {S : Sg} {m : Mem} {Q : Qt} {x i : Nat}
theorem lw_c0 (hL : sL X ≤ 3072) (hi : i + 5 < sL X) (hk : kc ≤ 2000 ∧ sl ≤ 100000) (hI : Inv S m x) (kk : ∀ S2 m2, Inv S2 m2 x → MW X (fL nm) room_1 (kc + 2) (sl + 99) 1539 (lwL X x i) [] S2 m2 Q) : MW X (fL nm) room_1 kc sl 33 (lwL X x i) [.int (nI 0)] S m Q :=
  mw_tsw dL_33 rfl 220 (by decide) (lw_case (f6 := fX6_attic) (f7 := fX7_attic) (d6 := 2) (mc := 0) (ms := 0) (d7 := 2) dL_c0 (by decide) (by decide) hL hi ml_L_13 ml_L_17 mfX6_attic mfX7_attic ⟨by decide, by decide, by decide, by decide⟩ hk hI (st_attic hI (sX X (i + 1)) (sX X (i + 2)) (sX X (i + 3))) kk)
theorem lw_c1 (hL : sL X ≤ 3072) (hi : i + 5 < sL X) (hk : kc ≤ 2000 ∧ sl ≤ 100000) (hI : Inv S m x) (kk : ∀ S2 m2, Inv S2 m2 x → MW X (fL nm) room_1 (kc + 2) (sl + 99) 1539 (lwL X x i) [] S2 m2 Q) : MW X (fL nm) room_1 kc sl 33 (lwL X x i) [.int (nI 1)] S m Q :=
  mw_tsw dL_33 rfl 263 (by decide) (lw_case (f6 := fX6_told) (f7 := fX7_told) (d6 := 4) (mc := 0) (ms := 0) (d7 := 5) dL_c1 (by decide) (by decide) hL hi ml_L_18 ml_L_22 mfX6_told mfX7_told ⟨by decide, by decide, by decide, by decide⟩ hk hI (st_told hI (sX X (i + 1)) (sX X (i + 2))) kk)
theorem lw_c2 (hL : sL X ≤ 3072) (hi : i + 5 < sL X) (hk : kc ≤ 2000 ∧ sl ≤ 100000) (hI : Inv S m x) (kk : ∀ S2 m2, Inv S2 m2 x → MW X (fL nm) room_1 (kc + 2) (sl + 99) 1539 (lwL X x i) [] S2 m2 Q) : MW X (fL nm) room_1 kc sl 33 (lwL X x i) [.int (nI 2)] S m Q :=
  mw_tsw dL_33 rfl 296 (by decide) (lw_case (f6 := fX6_as) (f7 := fX7_as) (d6 := 2) (mc := 0) (ms := 0) (d7 := 2) dL_c2 (by decide) (by decide) hL hi ml_L_23 ml_L_26 mfX6_as mfX7_as ⟨by decide, by decide, by decide, by decide⟩ hk hI (st_as hI (sX X (i + 1)) (sX X (i + 2))) kk)
theorem lw_c3 (hL : sL X ≤ 3072) (hi : i + 5 < sL X) (hk : kc ≤ 2000 ∧ sl ≤ 100000) (hI : Inv S m x) (kk : ∀ S2 m2, Inv S2 m2 x → MW X (fL nm) room_1 (kc + 2) (sl + 99) 1539 (lwL X x i) [] S2 m2 Q) : MW X (fL nm) room_1 kc sl 33 (lwL X x i) [.int (nI 3)] S m Q :=
  mw_tsw dL_33 rfl 329 (by decide) (lw_case (f6 := fX6_turns) (f7 := fX7_turns) (d6 := 2) (mc := 0) (ms := 0) (d7 := 2) dL_c3 (by decide) (by decide) hL hi ml_L_27 ml_L_30 mfX6_turns mfX7_turns ⟨by decide, by decide, by decide, by decide⟩ hk hI (st_turns hI (sX X (i + 1)) (sX X (i + 2))) kk)
theorem lw_c4 (hL : sL X ≤ 3072) (hi : i + 5 < sL X) (hk : kc ≤ 2000 ∧ sl ≤ 100000) (hI : Inv S m x) (kk : ∀ S2 m2, Inv S2 m2 x → MW X (fL nm) room_1 (kc + 2) (sl + 99) 1539 (lwL X x i) [] S2 m2 Q) : MW X (fL nm) room_1 kc sl 33 (lwL X x i) [.int (nI 4)] S m Q :=
  mw_tsw dL_33 rfl 362 (by decide) (lw_case (f6 := fX6_set) (f7 := fX7_set) (d6 := 2) (mc := 0) (ms := 0) (d7 := 2) dL_c4 (by decide) (by decide) hL hi ml_L_31 ml_L_34 mfX6_set mfX7_set ⟨by decide, by decide, by decide, by decide⟩ hk hI (st_set hI (sX X (i + 1)) (sX X (i + 2)) (sX X (i + 3))) kk)
theorem lw_c5 (hL : sL X ≤ 3072) (hi : i + 5 < sL X) (hk : kc ≤ 2000 ∧ sl ≤ 100000) (hI : Inv S m x) (kk : ∀ S2 m2, Inv S2 m2 x → MW X (fL nm) room_1 (kc + 2) (sl + 99) 1539 (lwL X x i) [] S2 m2 Q) : MW X (fL nm) room_1 kc sl 33 (lwL X x i) [.int (nI 5)] S m Q :=
  mw_tsw dL_33 rfl 405 (by decide) (lw_case (f6 := fX6_star) (f7 := fX7_star) (d6 := 2) (mc := 0) (ms := 0) (d7 := 2) dL_c5 (by decide) (by decide) hL hi ml_L_35 ml_L_38 mfX6_star mfX7_star ⟨by decide, by decide, by decide, by decide⟩ hk hI (st_star hI (sX X (i + 1)) (sX X (i + 2)) (sX X (i + 3))) kk)
theorem lw_c6 (hL : sL X ≤ 3072) (hi : i + 5 < sL X) (hk : kc ≤ 2000 ∧ sl ≤ 100000) (hI : Inv S m x) (kk : ∀ S2 m2, Inv S2 m2 x → MW X (fL nm) room_1 (kc + 2) (sl + 99) 1539 (lwL X x i) [] S2 m2 Q) : MW X (fL nm) room_1 kc sl 33 (lwL X x i) [.int (nI 6)] S m Q :=
  mw_tsw dL_33 rfl 448 (by decide) (lw_case (f6 := fX6_starOf) (f7 := fX7_starOf) (d6 := 4) (mc := 0) (ms := 0) (d7 := 5) dL_c6 (by decide) (by decide) hL hi ml_L_39 ml_L_42 mfX6_starOf mfX7_starOf ⟨by decide, by decide, by decide, by decide⟩ hk hI (st_starOf hI (sX X (i + 1)) (sX X (i + 2))) kk)
theorem lw_c7 (hL : sL X ≤ 3072) (hi : i + 5 < sL X) (hk : kc ≤ 2000 ∧ sl ≤ 100000) (hI : Inv S m x) (kk : ∀ S2 m2, Inv S2 m2 x → MW X (fL nm) room_1 (kc + 2) (sl + 99) 1539 (lwL X x i) [] S2 m2 Q) : MW X (fL nm) room_1 kc sl 33 (lwL X x i) [.int (nI 7)] S m Q :=
  mw_tsw dL_33 rfl 481 (by decide) (lw_case (f6 := fX6_chimney) (f7 := fX7_chimney) (d6 := 2) (mc := 0) (ms := 0) (d7 := 2) dL_c7 (by decide) (by decide) hL hi ml_L_43 ml_L_46 mfX6_chimney mfX7_chimney ⟨by decide, by decide, by decide, by decide⟩ hk hI (st_chimney hI (sX X (i + 1)) (sX X (i + 2))) kk)
theorem lw_c8 (hL : sL X ≤ 3072) (hi : i + 5 < sL X) (hk : kc ≤ 2000 ∧ sl ≤ 100000) (hI : Inv S m x) (kk : ∀ S2 m2, Inv S2 m2 x → MW X (fL nm) room_1 (kc + 2) (sl + 99) 1539 (lwL X x i) [] S2 m2 Q) : MW X (fL nm) room_1 kc sl 33 (lwL X x i) [.int (nI 8)] S m Q :=
  mw_tsw dL_33 rfl 514 (by decide) (lw_case (f6 := fX6_smokes) (f7 := fX7_smokes) (d6 := 2) (mc := 0) (ms := 0) (d7 := 2) dL_c8 (by decide) (by decide) hL hi ml_L_47 ml_L_51 mfX6_smokes mfX7_smokes ⟨by decide, by decide, by decide, by decide⟩ hk hI (st_smokes hI (sX X (i + 1))) kk)
theorem lw_c9 (hL : sL X ≤ 3072) (hi : i + 5 < sL X) (hk : kc ≤ 2000 ∧ sl ≤ 100000) (hI : Inv S m x) (kk : ∀ S2 m2, Inv S2 m2 x → MW X (fL nm) room_1 (kc + 2) (sl + 99) 1539 (lwL X x i) [] S2 m2 Q) : MW X (fL nm) room_1 kc sl 33 (lwL X x i) [.int (nI 9)] S m Q :=
  mw_tsw dL_33 rfl 537 (by decide) (lw_case (f6 := fX6_rule) (f7 := fX7_rule) (d6 := 2) (mc := 0) (ms := 0) (d7 := 2) dL_c9 (by decide) (by decide) hL hi ml_L_52 ml_L_55 mfX6_rule mfX7_rule ⟨by decide, by decide, by decide, by decide⟩ hk hI (st_rule hI (sX X (i + 1)) (sX X (i + 2))) kk)
theorem lw_c10 (hL : sL X ≤ 3072) (hi : i + 5 < sL X) (hk : kc ≤ 2000 ∧ sl ≤ 100000) (hI : Inv S m x) (kk : ∀ S2 m2, Inv S2 m2 x → MW X (fL nm) room_1 (kc + 2) (sl + 99) 1539 (lwL X x i) [] S2 m2 Q) : MW X (fL nm) room_1 kc sl 33 (lwL X x i) [.int (nI 10)] S m Q :=
  mw_tsw dL_33 rfl 570 (by decide) (lw_case (f6 := fX6_deal) (f7 := fX7_deal) (d6 := 3) (mc := 0) (ms := 0) (d7 := 3) dL_c10 (by decide) (by decide) hL hi ml_L_56 ml_L_59 mfX6_deal mfX7_deal ⟨by decide, by decide, by decide, by decide⟩ hk hI (st_deal hI (sX X (i + 1))) kk)
theorem lw_c11 (hL : sL X ≤ 3072) (hi : i + 5 < sL X) (hk : kc ≤ 2000 ∧ sl ≤ 100000) (hI : Inv S m x) (kk : ∀ S2 m2, Inv S2 m2 x → MW X (fL nm) room_1 (kc + 2) (sl + 99) 1539 (lwL X x i) [] S2 m2 Q) : MW X (fL nm) room_1 kc sl 33 (lwL X x i) [.int (nI 11)] S m Q :=
  mw_tsw dL_33 rfl 593 (by decide) (lw_case (f6 := fX6_seed) (f7 := fX7_seed) (d6 := 2) (mc := 0) (ms := 0) (d7 := 2) dL_c11 (by decide) (by decide) hL hi ml_L_60 ml_L_63 mfX6_seed mfX7_seed ⟨by decide, by decide, by decide, by decide⟩ hk hI (st_seed hI (sX X (i + 1))) kk)
theorem lw_c12 (hL : sL X ≤ 3072) (hi : i + 5 < sL X) (hk : kc ≤ 2000 ∧ sl ≤ 100000) (hI : Inv S m x) (kk : ∀ S2 m2, Inv S2 m2 x → MW X (fL nm) room_1 (kc + 2) (sl + 99) 1539 (lwL X x i) [] S2 m2 Q) : MW X (fL nm) room_1 kc sl 33 (lwL X x i) [.int (nI 12)] S m Q :=
  mw_tsw dL_33 rfl 616 (by decide) (lw_case (f6 := fX6_hours) (f7 := fX7_hours) (d6 := 5) (mc := 0) (ms := 0) (d7 := 8) dL_c12 (by decide) (by decide) hL hi ml_L_64 ml_L_67 mfX6_hours mfX7_hours ⟨by decide, by decide, by decide, by decide⟩ hk hI (st_hours hI (sX X (i + 1))) kk)
theorem lw_c13 (hL : sL X ≤ 3072) (hi : i + 5 < sL X) (hk : kc ≤ 2000 ∧ sl ≤ 100000) (hI : Inv S m x) (kk : ∀ S2 m2, Inv S2 m2 x → MW X (fL nm) room_1 (kc + 2) (sl + 99) 1539 (lwL X x i) [] S2 m2 Q) : MW X (fL nm) room_1 kc sl 33 (lwL X x i) [.int (nI 13)] S m Q :=
  mw_tsw dL_33 rfl 639 (by decide) (lw_case (f6 := fX6_town) (f7 := fX7_town) (d6 := 5) (mc := 0) (ms := 0) (d7 := 6) dL_c13 (by decide) (by decide) hL hi ml_L_68 ml_L_71 mfX6_town mfX7_town ⟨by decide, by decide, by decide, by decide⟩ hk hI (st_town hI (sX X (i + 1))) kk)
theorem lw_c14 (hL : sL X ≤ 3072) (hi : i + 5 < sL X) (hk : kc ≤ 2000 ∧ sl ≤ 100000) (hI : Inv S m x) (kk : ∀ S2 m2, Inv S2 m2 x → MW X (fL nm) room_1 (kc + 2) (sl + 99) 1539 (lwL X x i) [] S2 m2 Q) : MW X (fL nm) room_1 kc sl 33 (lwL X x i) [.int (nI 14)] S m Q :=
  mw_tsw dL_33 rfl 662 (by decide) (lw_case (f6 := fX6_cover) (f7 := fX7_cover) (d6 := 4) (mc := 0) (ms := 0) (d7 := 4) dL_c14 (by decide) (by decide) hL hi ml_L_72 ml_L_75 mfX6_cover mfX7_cover ⟨by decide, by decide, by decide, by decide⟩ hk hI (st_cover hI (sX X (i + 1))) kk)
theorem lw_c15 (hL : sL X ≤ 3072) (hi : i + 5 < sL X) (hk : kc ≤ 2000 ∧ sl ≤ 100000) (hI : Inv S m x) (kk : ∀ S2 m2, Inv S2 m2 x → MW X (fL nm) room_1 (kc + 2) (sl + 99) 1539 (lwL X x i) [] S2 m2 Q) : MW X (fL nm) room_1 kc sl 33 (lwL X x i) [.int (nI 15)] S m Q :=
  mw_tsw dL_33 rfl 685 (by decide) (lw_case (f6 := fX6_behind) (f7 := fX7_behind) (d6 := 5) (mc := 0) (ms := 0) (d7 := 8) dL_c15 (by decide) (by decide) hL hi ml_L_76 ml_L_79 mfX6_behind mfX7_behind ⟨by decide, by decide, by decide, by decide⟩ hk hI (st_behind hI (sX X (i + 1)) (sX X (i + 2))) kk)
theorem lw_c16 (hL : sL X ≤ 3072) (hi : i + 5 < sL X) (hk : kc ≤ 2000 ∧ sl ≤ 100000) (hI : Inv S m x) (kk : ∀ S2 m2, Inv S2 m2 x → MW X (fL nm) room_1 (kc + 2) (sl + 99) 1539 (lwL X x i) [] S2 m2 Q) : MW X (fL nm) room_1 kc sl 33 (lwL X x i) [.int (nI 16)] S m Q :=
  mw_tsw dL_33 rfl 718 (by decide) (lw_case (f6 := fX6_debt) (f7 := fX7_debt) (d6 := 5) (mc := 0) (ms := 0) (d7 := 7) dL_c16 (by decide) (by decide) hL hi ml_L_80 ml_L_83 mfX6_debt mfX7_debt ⟨by decide, by decide, by decide, by decide⟩ hk hI (st_debt hI (sX X (i + 1)) (sX X (i + 2))) kk)
theorem lw_c17 (hL : sL X ≤ 3072) (hi : i + 5 < sL X) (hk : kc ≤ 2000 ∧ sl ≤ 100000) (hI : Inv S m x) (kk : ∀ S2 m2, Inv S2 m2 x → MW X (fL nm) room_1 (kc + 2) (sl + 99) 1539 (lwL X x i) [] S2 m2 Q) : MW X (fL nm) room_1 kc sl 33 (lwL X x i) [.int (nI 17)] S m Q :=
  mw_tsw dL_33 rfl 751 (by decide) (lw_case (f6 := fX6_rises) (f7 := fX7_rises) (d6 := 5) (mc := 0) (ms := 0) (d7 := 7) dL_c17 (by decide) (by decide) hL hi ml_L_84 ml_L_87 mfX6_rises mfX7_rises ⟨by decide, by decide, by decide, by decide⟩ hk hI (st_rises hI (sX X (i + 1)) (sX X (i + 2))) kk)
theorem lw_c18 (hL : sL X ≤ 3072) (hi : i + 5 < sL X) (hk : kc ≤ 2000 ∧ sl ≤ 100000) (hI : Inv S m x) (kk : ∀ S2 m2, Inv S2 m2 x → MW X (fL nm) room_1 (kc + 2) (sl + 99) 1539 (lwL X x i) [] S2 m2 Q) : MW X (fL nm) room_1 kc sl 33 (lwL X x i) [.int (nI 18)] S m Q :=
  mw_tsw dL_33 rfl 784 (by decide) (lw_case (f6 := fX6_turned) (f7 := fX7_turned) (d6 := 6) (mc := 0) (ms := 0) (d7 := 9) dL_c18 (by decide) (by decide) hL hi ml_L_88 ml_L_91 mfX6_turned mfX7_turned ⟨by decide, by decide, by decide, by decide⟩ hk hI (st_turned hI (sX X (i + 1)) (sX X (i + 2)) (sX X (i + 3))) kk)
theorem lw_c19 (hL : sL X ≤ 3072) (hi : i + 5 < sL X) (hk : kc ≤ 2000 ∧ sl ≤ 100000) (hI : Inv S m x) (kk : ∀ S2 m2, Inv S2 m2 x → MW X (fL nm) room_1 (kc + 2) (sl + 99) 1539 (lwL X x i) [] S2 m2 Q) : MW X (fL nm) room_1 kc sl 33 (lwL X x i) [.int (nI 19)] S m Q :=
  mw_tsw dL_33 rfl 827 (by decide) (lw_case (f6 := fX6_stands) (f7 := fX7_stands) (d6 := 6) (mc := 0) (ms := 0) (d7 := 8) dL_c19 (by decide) (by decide) hL hi ml_L_92 ml_L_95 mfX6_stands mfX7_stands ⟨by decide, by decide, by decide, by decide⟩ hk hI (st_stands hI (sX X (i + 1)) (sX X (i + 2))) kk)
theorem lw_c20 (hL : sL X ≤ 3072) (hi : i + 5 < sL X) (hk : kc ≤ 2000 ∧ sl ≤ 100000) (hI : Inv S m x) (kk : ∀ S2 m2, Inv S2 m2 x → MW X (fL nm) room_1 (kc + 2) (sl + 99) 1539 (lwL X x i) [] S2 m2 Q) : MW X (fL nm) room_1 kc sl 33 (lwL X x i) [.int (nI 20)] S m Q :=
  mw_tsw dL_33 rfl 860 (by decide) (lw_case (f6 := fX6_becomes) (f7 := fX7_becomes) (d6 := 6) (mc := 0) (ms := 0) (d7 := 9) dL_c20 (by decide) (by decide) hL hi ml_L_96 ml_L_99 mfX6_becomes mfX7_becomes ⟨by decide, by decide, by decide, by decide⟩ hk hI (st_becomes hI (sX X (i + 1)) (sX X (i + 2)) (sX X (i + 3))) kk)
theorem lw_c21 (hL : sL X ≤ 3072) (hi : i + 5 < sL X) (hk : kc ≤ 2000 ∧ sl ≤ 100000) (hI : Inv S m x) (kk : ∀ S2 m2, Inv S2 m2 x → MW X (fL nm) room_1 (kc + 2) (sl + 99) 1539 (lwL X x i) [] S2 m2 Q) : MW X (fL nm) room_1 kc sl 33 (lwL X x i) [.int (nI 21)] S m Q :=
  mw_tsw dL_33 rfl 903 (by decide) (lw_case (f6 := fX6_like) (f7 := fX7_like) (d6 := 6) (mc := 0) (ms := 0) (d7 := 7) dL_c21 (by decide) (by decide) hL hi ml_L_100 ml_L_103 mfX6_like mfX7_like ⟨by decide, by decide, by decide, by decide⟩ hk hI (st_like hI (sX X (i + 1)) (sX X (i + 2))) kk)
theorem lw_c22 (hL : sL X ≤ 3072) (hi : i + 5 < sL X) (hk : kc ≤ 2000 ∧ sl ≤ 100000) (hI : Inv S m x) (kk : ∀ S2 m2, Inv S2 m2 x → MW X (fL nm) room_1 (kc + 2) (sl + 99) 1539 (lwL X x i) [] S2 m2 Q) : MW X (fL nm) room_1 kc sl 33 (lwL X x i) [.int (nI 22)] S m Q :=
  mw_tsw dL_33 rfl 936 (by decide) (lw_case (f6 := fX6_fee) (f7 := fX7_fee) (d6 := 3) (mc := 0) (ms := 0) (d7 := 6) dL_c22 (by decide) (by decide) hL hi ml_L_104 ml_L_108 mfX6_fee mfX7_fee ⟨by decide, by decide, by decide, by decide⟩ hk hI (st_fee hI) kk)
theorem lw_c23 (hL : sL X ≤ 3072) (hi : i + 5 < sL X) (hk : kc ≤ 2000 ∧ sl ≤ 100000) (hI : Inv S m x) (kk : ∀ S2 m2, Inv S2 m2 x → MW X (fL nm) room_1 (kc + 2) (sl + 99) 1539 (lwL X x i) [] S2 m2 Q) : MW X (fL nm) room_1 kc sl 33 (lwL X x i) [.int (nI 23)] S m Q :=
  mw_tsw dL_33 rfl 949 (by decide) (lw_case (f6 := fX6_fine) (f7 := fX7_fine) (d6 := 3) (mc := 0) (ms := 0) (d7 := 6) dL_c23 (by decide) (by decide) hL hi ml_L_109 ml_L_112 mfX6_fine mfX7_fine ⟨by decide, by decide, by decide, by decide⟩ hk hI (st_fine hI (sX X (i + 1))) kk)
theorem lw_c24 (hL : sL X ≤ 3072) (hi : i + 5 < sL X) (hk : kc ≤ 2000 ∧ sl ≤ 100000) (hI : Inv S m x) (kk : ∀ S2 m2, Inv S2 m2 x → MW X (fL nm) room_1 (kc + 2) (sl + 99) 1539 (lwL X x i) [] S2 m2 Q) : MW X (fL nm) room_1 kc sl 33 (lwL X x i) [.int (nI 24)] S m Q :=
  mw_tsw dL_33 rfl 972 (by decide) (lw_case (f6 := fX6_feed) (f7 := fX7_feed) (d6 := 1) (mc := 0) (ms := 0) (d7 := 1) dL_c24 (by decide) (by decide) hL hi ml_L_113 ml_L_116 mfX6_feed mfX7_feed ⟨by decide, by decide, by decide, by decide⟩ hk hI (st_feed hI (sX X (i + 1)) (sX X (i + 2)) (sX X (i + 3))) kk)
theorem lw_c25 (hL : sL X ≤ 3072) (hi : i + 5 < sL X) (hk : kc ≤ 2000 ∧ sl ≤ 100000) (hI : Inv S m x) (kk : ∀ S2 m2, Inv S2 m2 x → MW X (fL nm) room_1 (kc + 2) (sl + 99) 1539 (lwL X x i) [] S2 m2 Q) : MW X (fL nm) room_1 kc sl 33 (lwL X x i) [.int (nI 25)] S m Q :=
  mw_tsw dL_33 rfl 1015 (by decide) (lw_case (f6 := fX6_trim) (f7 := fX7_trim) (d6 := 1) (mc := 0) (ms := 0) (d7 := 1) dL_c25 (by decide) (by decide) hL hi ml_L_117 ml_L_120 mfX6_trim mfX7_trim ⟨by decide, by decide, by decide, by decide⟩ hk hI (st_trim hI (sX X (i + 1))) kk)
theorem lw_c26 (hL : sL X ≤ 3072) (hi : i + 5 < sL X) (hk : kc ≤ 2000 ∧ sl ≤ 100000) (hI : Inv S m x) (kk : ∀ S2 m2, Inv S2 m2 x → MW X (fL nm) room_1 (kc + 2) (sl + 99) 1539 (lwL X x i) [] S2 m2 Q) : MW X (fL nm) room_1 kc sl 33 (lwL X x i) [.int (nI 26)] S m Q :=
  mw_tsw dL_33 rfl 1038 (by decide) (lw_case (f6 := fX6_text) (f7 := fX7_text) (d6 := 218) (mc := 2) (ms := 99) (d7 := 4) dL_c26 (by decide) (by decide) hL hi ml_L_121 ml_L_124 mfX6_text mfX7_text ⟨by decide, by decide, by decide, by decide⟩ hk hI (st_text hI) kk)
theorem lw_c27 (hL : sL X ≤ 3072) (hi : i + 5 < sL X) (hk : kc ≤ 2000 ∧ sl ≤ 100000) (hI : Inv S m x) (kk : ∀ S2 m2, Inv S2 m2 x → MW X (fL nm) room_1 (kc + 2) (sl + 99) 1539 (lwL X x i) [] S2 m2 Q) : MW X (fL nm) room_1 kc sl 33 (lwL X x i) [.int (nI 27)] S m Q :=
  mw_tsw dL_33 rfl 1051 (by decide) (lw_case (f6 := fX6_textTold) (f7 := fX7_textTold) (d6 := 1) (mc := 0) (ms := 0) (d7 := 1) dL_c27 (by decide) (by decide) hL hi ml_L_125 ml_L_128 mfX6_textTold mfX7_textTold ⟨by decide, by decide, by decide, by decide⟩ hk hI (st_textTold hI (sX X (i + 1)) (sX X (i + 2))) kk)
theorem lw_c28 (hL : sL X ≤ 3072) (hi : i + 5 < sL X) (hk : kc ≤ 2000 ∧ sl ≤ 100000) (hI : Inv S m x) (kk : ∀ S2 m2, Inv S2 m2 x → MW X (fL nm) room_1 (kc + 2) (sl + 99) 1539 (lwL X x i) [] S2 m2 Q) : MW X (fL nm) room_1 kc sl 33 (lwL X x i) [.int (nI 28)] S m Q :=
  mw_tsw dL_33 rfl 1084 (by decide) (lw_case (f6 := fX6_why) (f7 := fX7_why) (d6 := 1) (mc := 0) (ms := 0) (d7 := 1) dL_c28 (by decide) (by decide) hL hi ml_L_129 ml_L_132 mfX6_why mfX7_why ⟨by decide, by decide, by decide, by decide⟩ hk hI (st_why hI (sX X (i + 1))) kk)
theorem lw_c29 (hL : sL X ≤ 3072) (hi : i + 5 < sL X) (hk : kc ≤ 2000 ∧ sl ≤ 100000) (hI : Inv S m x) (kk : ∀ S2 m2, Inv S2 m2 x → MW X (fL nm) room_1 (kc + 2) (sl + 99) 1539 (lwL X x i) [] S2 m2 Q) : MW X (fL nm) room_1 kc sl 33 (lwL X x i) [.int (nI 29)] S m Q :=
  mw_tsw dL_33 rfl 1107 (by decide) (lw_case (f6 := fX6_sheet) (f7 := fX7_sheet) (d6 := 2) (mc := 0) (ms := 0) (d7 := 2) dL_c29 (by decide) (by decide) hL hi ml_L_133 ml_L_136 mfX6_sheet mfX7_sheet ⟨by decide, by decide, by decide, by decide⟩ hk hI (st_sheet hI (sX X (i + 1)) (sX X (i + 2)) (sX X (i + 3))) kk)
theorem lw_c30 (hL : sL X ≤ 3072) (hi : i + 5 < sL X) (hk : kc ≤ 2000 ∧ sl ≤ 100000) (hI : Inv S m x) (kk : ∀ S2 m2, Inv S2 m2 x → MW X (fL nm) room_1 (kc + 2) (sl + 99) 1539 (lwL X x i) [] S2 m2 Q) : MW X (fL nm) room_1 kc sl 33 (lwL X x i) [.int (nI 30)] S m Q :=
  mw_tsw dL_33 rfl 1150 (by decide) (lw_case (f6 := fX6_mark) (f7 := fX7_mark) (d6 := 2) (mc := 0) (ms := 0) (d7 := 2) dL_c30 (by decide) (by decide) hL hi ml_L_137 ml_L_140 mfX6_mark mfX7_mark ⟨by decide, by decide, by decide, by decide⟩ hk hI (st_mark hI (sX X (i + 1)) (sX X (i + 2)) (sX X (i + 3))) kk)
theorem lw_c31 (hL : sL X ≤ 3072) (hi : i + 5 < sL X) (hk : kc ≤ 2000 ∧ sl ≤ 100000) (hI : Inv S m x) (kk : ∀ S2 m2, Inv S2 m2 x → MW X (fL nm) room_1 (kc + 2) (sl + 99) 1539 (lwL X x i) [] S2 m2 Q) : MW X (fL nm) room_1 kc sl 33 (lwL X x i) [.int (nI 31)] S m Q :=
  mw_tsw dL_33 rfl 1193 (by decide) (lw_case (f6 := fX6_pour) (f7 := fX7_pour) (d6 := 3) (mc := 0) (ms := 0) (d7 := 2) dL_c31 (by decide) (by decide) hL hi ml_L_141 ml_L_144 mfX6_pour mfX7_pour ⟨by decide, by decide, by decide, by decide⟩ hk hI (st_pour hI (sX X (i + 1))) kk)
theorem lw_c32 (hL : sL X ≤ 3072) (hi : i + 5 < sL X) (hk : kc ≤ 2000 ∧ sl ≤ 100000) (hI : Inv S m x) (kk : ∀ S2 m2, Inv S2 m2 x → MW X (fL nm) room_1 (kc + 2) (sl + 99) 1539 (lwL X x i) [] S2 m2 Q) : MW X (fL nm) room_1 kc sl 33 (lwL X x i) [.int (nI 32)] S m Q :=
  mw_tsw dL_33 rfl 1216 (by decide) (lw_case (f6 := fX6_reads) (f7 := fX7_reads) (d6 := 3) (mc := 0) (ms := 0) (d7 := 2) dL_c32 (by decide) (by decide) hL hi ml_L_145 ml_L_148 mfX6_reads mfX7_reads ⟨by decide, by decide, by decide, by decide⟩ hk hI (st_reads hI (sX X (i + 1))) kk)
theorem lw_c33 (hL : sL X ≤ 3072) (hi : i + 5 < sL X) (hk : kc ≤ 2000 ∧ sl ≤ 100000) (hI : Inv S m x) (kk : ∀ S2 m2, Inv S2 m2 x → MW X (fL nm) room_1 (kc + 2) (sl + 99) 1539 (lwL X x i) [] S2 m2 Q) : MW X (fL nm) room_1 kc sl 33 (lwL X x i) [.int (nI 33)] S m Q :=
  mw_tsw dL_33 rfl 1239 (by decide) (lw_case (f6 := fX6_copy) (f7 := fX7_copy) (d6 := 2) (mc := 0) (ms := 0) (d7 := 2) dL_c33 (by decide) (by decide) hL hi ml_L_149 ml_L_153 mfX6_copy mfX7_copy ⟨by decide, by decide, by decide, by decide⟩ hk hI (st_copy hI (sX X (i + 1)) (sX X (i + 2)) (sX X (i + 3)) (sX X (i + 4)) (sX X (i + 5))) kk)
theorem lw_c34 (hL : sL X ≤ 3072) (hi : i + 5 < sL X) (hk : kc ≤ 2000 ∧ sl ≤ 100000) (hI : Inv S m x) (kk : ∀ S2 m2, Inv S2 m2 x → MW X (fL nm) room_1 (kc + 2) (sl + 99) 1539 (lwL X x i) [] S2 m2 Q) : MW X (fL nm) room_1 kc sl 33 (lwL X x i) [.int (nI 34)] S m Q :=
  mw_tsw dL_33 rfl 1302 (by decide) (lw_case (f6 := fX6_lay) (f7 := fX7_lay) (d6 := 2) (mc := 0) (ms := 0) (d7 := 2) dL_c34 (by decide) (by decide) hL hi ml_L_154 ml_L_157 mfX6_lay mfX7_lay ⟨by decide, by decide, by decide, by decide⟩ hk hI (st_lay hI (sX X (i + 1)) (sX X (i + 2)) (sX X (i + 3))) kk)
theorem lw_c35 (hL : sL X ≤ 3072) (hi : i + 5 < sL X) (hk : kc ≤ 2000 ∧ sl ≤ 100000) (hI : Inv S m x) (kk : ∀ S2 m2, Inv S2 m2 x → MW X (fL nm) room_1 (kc + 2) (sl + 99) 1539 (lwL X x i) [] S2 m2 Q) : MW X (fL nm) room_1 kc sl 33 (lwL X x i) [.int (nI 35)] S m Q :=
  mw_tsw dL_33 rfl 1345 (by decide) (lw_case (f6 := fX6_ask) (f7 := fX7_ask) (d6 := 2) (mc := 0) (ms := 0) (d7 := 2) dL_c35 (by decide) (by decide) hL hi ml_L_158 ml_L_161 mfX6_ask mfX7_ask ⟨by decide, by decide, by decide, by decide⟩ hk hI (st_ask hI (sX X (i + 1)) (sX X (i + 2))) kk)
theorem lw_c36 (hL : sL X ≤ 3072) (hi : i + 5 < sL X) (hk : kc ≤ 2000 ∧ sl ≤ 100000) (hI : Inv S m x) (kk : ∀ S2 m2, Inv S2 m2 x → MW X (fL nm) room_1 (kc + 2) (sl + 99) 1539 (lwL X x i) [] S2 m2 Q) : MW X (fL nm) room_1 kc sl 33 (lwL X x i) [.int (nI 36)] S m Q :=
  mw_tsw dL_33 rfl 1378 (by decide) (lw_case (f6 := fX6_item) (f7 := fX7_item) (d6 := 3) (mc := 0) (ms := 0) (d7 := 2) dL_c36 (by decide) (by decide) hL hi ml_L_162 ml_L_165 mfX6_item mfX7_item ⟨by decide, by decide, by decide, by decide⟩ hk hI (st_item hI (sX X (i + 1)) (sX X (i + 2))) kk)
theorem lw_c37 (hL : sL X ≤ 3072) (hi : i + 5 < sL X) (hk : kc ≤ 2000 ∧ sl ≤ 100000) (hI : Inv S m x) (kk : ∀ S2 m2, Inv S2 m2 x → MW X (fL nm) room_1 (kc + 2) (sl + 99) 1539 (lwL X x i) [] S2 m2 Q) : MW X (fL nm) room_1 kc sl 33 (lwL X x i) [.int (nI 37)] S m Q :=
  mw_tsw dL_33 rfl 1411 (by decide) (lw_case (f6 := fX6_rest) (f7 := fX7_rest) (d6 := 2) (mc := 0) (ms := 0) (d7 := 2) dL_c37 (by decide) (by decide) hL hi ml_L_166 ml_L_169 mfX6_rest mfX7_rest ⟨by decide, by decide, by decide, by decide⟩ hk hI (st_rest hI (sX X (i + 1)) (sX X (i + 2))) kk)
theorem lw_c38 (hL : sL X ≤ 3072) (hi : i + 5 < sL X) (hk : kc ≤ 2000 ∧ sl ≤ 100000) (hI : Inv S m x) (kk : ∀ S2 m2, Inv S2 m2 x → MW X (fL nm) room_1 (kc + 2) (sl + 99) 1539 (lwL X x i) [] S2 m2 Q) : MW X (fL nm) room_1 kc sl 33 (lwL X x i) [.int (nI 38)] S m Q :=
  mw_tsw dL_33 rfl 1444 (by decide) (lw_case (f6 := fX6_tell) (f7 := fX7_tell) (d6 := 0) (mc := 0) (ms := 0) (d7 := 0) dL_c38 (by decide) (by decide) hL hi ml_L_170 ml_L_173 mfX6_tell mfX7_tell ⟨by decide, by decide, by decide, by decide⟩ hk hI (st_tell hI (sX X (i + 1))) kk)
theorem lw_c39 (hL : sL X ≤ 3072) (hi : i + 5 < sL X) (hk : kc ≤ 2000 ∧ sl ≤ 100000) (hI : Inv S m x) (kk : ∀ S2 m2, Inv S2 m2 x → MW X (fL nm) room_1 (kc + 2) (sl + 99) 1539 (lwL X x i) [] S2 m2 Q) : MW X (fL nm) room_1 kc sl 33 (lwL X x i) [.int (nI 39)] S m Q :=
  mw_tsw dL_33 rfl 1467 (by decide) (lw_case (f6 := fX6_check) (f7 := fX7_check) (d6 := 5) (mc := 0) (ms := 0) (d7 := 7) dL_c39 (by decide) (by decide) hL hi ml_L_174 ml_L_177 mfX6_check mfX7_check ⟨by decide, by decide, by decide, by decide⟩ hk hI (st_check hI (sX X (i + 1))) kk)
theorem lw_c40 (hL : sL X ≤ 3072) (hi : i + 5 < sL X) (hk : kc ≤ 2000 ∧ sl ≤ 100000) (hI : Inv S m x) (kk : ∀ S2 m2, Inv S2 m2 x → MW X (fL nm) room_1 (kc + 2) (sl + 99) 1539 (lwL X x i) [] S2 m2 Q) : MW X (fL nm) room_1 kc sl 33 (lwL X x i) [.int (nI 40)] S m Q :=
  mw_tsw dL_33 rfl 1490 (by decide) (lw_case (f6 := fX6_keep) (f7 := fX7_keep) (d6 := 2) (mc := 0) (ms := 0) (d7 := 1) dL_c40 (by decide) (by decide) hL hi ml_L_178 ml_L_181 mfX6_keep mfX7_keep ⟨by decide, by decide, by decide, by decide⟩ hk hI (st_keep hI) kk)
theorem lw_c41 (hL : sL X ≤ 3072) (hi : i + 5 < sL X) (hk : kc ≤ 2000 ∧ sl ≤ 100000) (hI : Inv S m x) (kk : ∀ S2 m2, Inv S2 m2 x → MW X (fL nm) room_1 (kc + 2) (sl + 99) 1539 (lwL X x i) [] S2 m2 Q) : MW X (fL nm) room_1 kc sl 33 (lwL X x i) [.int (nI 41)] S m Q :=
  mw_tsw dL_33 rfl 1503 (by decide) (lw_case (f6 := fX6_back) (f7 := fX7_back) (d6 := 2) (mc := 0) (ms := 0) (d7 := 1) dL_c41 (by decide) (by decide) hL hi ml_L_182 ml_L_185 mfX6_back mfX7_back ⟨by decide, by decide, by decide, by decide⟩ hk hI (st_back hI) kk)
theorem lw_c42 (hL : sL X ≤ 3072) (hi : i + 5 < sL X) (hk : kc ≤ 2000 ∧ sl ≤ 100000) (hI : Inv S m x) (kk : ∀ S2 m2, Inv S2 m2 x → MW X (fL nm) room_1 (kc + 2) (sl + 99) 1539 (lwL X x i) [] S2 m2 Q) : MW X (fL nm) room_1 kc sl 33 (lwL X x i) [.int (nI 42)] S m Q :=
  mw_tsw dL_33 rfl 1516 (by decide) (lw_case (f6 := fX6_count) (f7 := fX7_count) (d6 := 0) (mc := 0) (ms := 0) (d7 := 0) dL_c42 (by decide) (by decide) hL hi ml_L_186 ml_L_189 mfX6_count mfX7_count ⟨by decide, by decide, by decide, by decide⟩ hk hI (st_count hI (sX X (i + 1))) kk)
theorem lw_sw (hL : sL X ≤ 3072) (hi : i + 5 < sL X) (hk : kc ≤ 2000 ∧ sl ≤ 100000) (hI : Inv S m x) (kk : ∀ S2 m2, Inv S2 m2 x → MW X (fL nm) room_1 (kc + 2) (sl + 99) 1539 (lwL X x i) [] S2 m2 Q) (t : Nat) (ht : t < 64) : MW X (fL nm) room_1 kc sl 33 (lwL X x i) [.int (nI t)] S m Q := by
  by_cases h0 : t = 0
  · rw [h0]; exact lw_c0 hL hi hk hI kk
  by_cases h1 : t = 1
  · rw [h1]; exact lw_c1 hL hi hk hI kk
  by_cases h2 : t = 2
  · rw [h2]; exact lw_c2 hL hi hk hI kk
  by_cases h3 : t = 3
  · rw [h3]; exact lw_c3 hL hi hk hI kk
  by_cases h4 : t = 4
  · rw [h4]; exact lw_c4 hL hi hk hI kk
  by_cases h5 : t = 5
  · rw [h5]; exact lw_c5 hL hi hk hI kk
  by_cases h6 : t = 6
  · rw [h6]; exact lw_c6 hL hi hk hI kk
  by_cases h7 : t = 7
  · rw [h7]; exact lw_c7 hL hi hk hI kk
  by_cases h8 : t = 8
  · rw [h8]; exact lw_c8 hL hi hk hI kk
  by_cases h9 : t = 9
  · rw [h9]; exact lw_c9 hL hi hk hI kk
  by_cases h10 : t = 10
  · rw [h10]; exact lw_c10 hL hi hk hI kk
  by_cases h11 : t = 11
  · rw [h11]; exact lw_c11 hL hi hk hI kk
  by_cases h12 : t = 12
  · rw [h12]; exact lw_c12 hL hi hk hI kk
  by_cases h13 : t = 13
  · rw [h13]; exact lw_c13 hL hi hk hI kk
  by_cases h14 : t = 14
  · rw [h14]; exact lw_c14 hL hi hk hI kk
  by_cases h15 : t = 15
  · rw [h15]; exact lw_c15 hL hi hk hI kk
  by_cases h16 : t = 16
  · rw [h16]; exact lw_c16 hL hi hk hI kk
  by_cases h17 : t = 17
  · rw [h17]; exact lw_c17 hL hi hk hI kk
  by_cases h18 : t = 18
  · rw [h18]; exact lw_c18 hL hi hk hI kk
  by_cases h19 : t = 19
  · rw [h19]; exact lw_c19 hL hi hk hI kk
  by_cases h20 : t = 20
  · rw [h20]; exact lw_c20 hL hi hk hI kk
  by_cases h21 : t = 21
  · rw [h21]; exact lw_c21 hL hi hk hI kk
  by_cases h22 : t = 22
  · rw [h22]; exact lw_c22 hL hi hk hI kk
  by_cases h23 : t = 23
  · rw [h23]; exact lw_c23 hL hi hk hI kk
  by_cases h24 : t = 24
  · rw [h24]; exact lw_c24 hL hi hk hI kk
  by_cases h25 : t = 25
  · rw [h25]; exact lw_c25 hL hi hk hI kk
  by_cases h26 : t = 26
  · rw [h26]; exact lw_c26 hL hi hk hI kk
  by_cases h27 : t = 27
  · rw [h27]; exact lw_c27 hL hi hk hI kk
  by_cases h28 : t = 28
  · rw [h28]; exact lw_c28 hL hi hk hI kk
  by_cases h29 : t = 29
  · rw [h29]; exact lw_c29 hL hi hk hI kk
  by_cases h30 : t = 30
  · rw [h30]; exact lw_c30 hL hi hk hI kk
  by_cases h31 : t = 31
  · rw [h31]; exact lw_c31 hL hi hk hI kk
  by_cases h32 : t = 32
  · rw [h32]; exact lw_c32 hL hi hk hI kk
  by_cases h33 : t = 33
  · rw [h33]; exact lw_c33 hL hi hk hI kk
  by_cases h34 : t = 34
  · rw [h34]; exact lw_c34 hL hi hk hI kk
  by_cases h35 : t = 35
  · rw [h35]; exact lw_c35 hL hi hk hI kk
  by_cases h36 : t = 36
  · rw [h36]; exact lw_c36 hL hi hk hI kk
  by_cases h37 : t = 37
  · rw [h37]; exact lw_c37 hL hi hk hI kk
  by_cases h38 : t = 38
  · rw [h38]; exact lw_c38 hL hi hk hI kk
  by_cases h39 : t = 39
  · rw [h39]; exact lw_c39 hL hi hk hI kk
  by_cases h40 : t = 40
  · rw [h40]; exact lw_c40 hL hi hk hI kk
  by_cases h41 : t = 41
  · rw [h41]; exact lw_c41 hL hi hk hI kk
  by_cases h42 : t = 42
  · rw [h42]; exact lw_c42 hL hi hk hI kk
  refine mw_ts0 dL_33 rfl 1539 (by decide) (Or.inr ?_) (MW.widen (by omega) (by omega) (kk S m hI))
  rw [nI_toInt (by omega)]
  omega
end LWB
theorem lw_loop {X : Xb} {nm : String} {x : Nat} {Q : Qt} (hL : sL X ≤ 3072) (hQ : ∀ kc sl S m i, kc ≤ 2000 → sl ≤ 100000 → MW X (fL nm) room_1 kc sl 1545 (lwL X x i) [] S m Q) : ∀ (f j : Nat) (S : Sg) (m : Mem), 520 ≤ f + j → j ≤ 513 → Inv S m x → MW X (fL nm) room_1 (110 + 2 * j) (6299 + 99 * j) 18 (lwL X x (6 * j)) [] S m Q
  | 0, j, S, m, h1, h2, _ => by omega
  | f + 1, j, S, m, h1, h2, hI => by
    refine mw_iload_n dL_18 rfl ?_
    refine mw_aload_n dL_19 rfl ?_
    refine mw_slen dL_20 ?_
    refine mw_bipush (v := nI 6) dL_21 (by decide) ?_
    refine mw_isub dL_23 ?_
    refine mw_icmp_gt (tgt := 1545) dL_24 (by decide) (fun _ => hQ _ _ _ _ _ (by omega) (by omega)) (fun c => ?_)
    have hi : 6 * j + 5 < sL X := by
      have c1 := Int32.not_lt.mp c
      have c2 := Int32.le_iff_toInt_le.mp c1
      rw [nI_toInt (by omega), show (Int32.ofNat (sL X) - nI 6).toInt = ((sL X : Nat) : Int) - ((6 : Nat) : Int) from pk_sub_toInt (a := sL X) (b := 6) (Nat.lt_of_le_of_lt hL (by decide)) (by decide)] at c2
      omega
    refine mw_aload_n dL_27 rfl ?_
    refine mw_iload_n dL_28 rfl ?_
    refine mw_sld dL_29 (vp_in_nI (show 6 * j < sL X by omega) (Nat.lt_of_le_of_lt hL (by decide))) ?_
    refine mw_bipush (v := 63) dL_30 (by decide) ?_
    refine mw_iand dL_32 ?_
    obtain ⟨t, ht, e⟩ := pk_andE (sX X (nI (6 * j)).toNatClampNeg) (m := 63) 6 (by decide)
    rw [e]
    refine lw_sw hL hi ⟨by omega, by omega⟩ hI (fun S2 m2 hI2 => ?_) t ht
    refine mw_iinc (v := nI (6 * (j + 1))) dL_1539 rfl (Nat.lt_succ_self 3) (nI_add (6 * j) 6) ?_
    refine mw_goto (tgt := 18) dL_1542 (by decide) ?_
    exact MW.widen (by omega) (by omega) (lw_loop hL hQ f (j + 1) S2 m2 (by omega) (by omega) hI2)
