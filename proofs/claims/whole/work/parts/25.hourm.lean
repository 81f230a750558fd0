/-! the model: an hour -/
def FrM (o : Nat) (mi m : Mem) : Prop := ∀ a, a ≠ o + 1 → a ≠ o + 12 → a ≠ o + 13 → m a = mi a
theorem FrM.rf (o : Nat) (mi : Mem) : FrM o mi mi := fun _ _ _ _ => rfl
theorem FrM.tr {o : Nat} {a b c : Mem} (h : FrM o a b) (k : FrM o b c) : FrM o a c := fun x h1 h2 h3 => (k x h1 h2 h3).trans (h x h1 h2 h3)
theorem FrM.scr {o : Nat} {a b : Mem} (h : ScrM o a b) : FrM o a b := fun x _ h2 h3 => h x h2 h3
theorem FrM.up {o k : Nat} {a b : Mem} {v : Int32} (h : FrM o a b) : FrM o a (m_up b (o + 1) k v) := fun x h1 h2 h3 => by rw [m_up_ne h1]; exact h x h1 h2 h3
def tail66 (A B : Nat → Int32) : Prop := ∀ j, 66 ≤ j → B j = A j
theorem lastK_congr {A B : Nat → Int32} {key : Int32} (h : tail66 A B) : ∀ n, lastK B key n = lastK A key n
  | 0 => rfl
  | n + 1 => by simp only [lastK]; rw [h _ (by omega), lastK_congr h n]
theorem mLen_congr {A B : Nat → Int32} (h : tail66 A B) (t : Nat) : mLen B t = mLen A t := by unfold mLen; rw [h _ (by omega)]
theorem code_congr {A B : Nat → Int32} (h : tail66 A B) (t : Nat) : (fun k => B (94 + 96 * t + k)) = fun k => A (94 + 96 * t + k) := by funext k; exact h _ (by omega)
theorem lwM_congr {A B : Nat → Int32} {key : Int32} {n : Nat} (h : tail66 A B) : lwM B key n = lwM A key n := by
  unfold lwM
  rw [lastK_congr h]
  congr 1
  funext t
  rw [code_congr h, mLen_congr h]
theorem MtOk.congr {A B : Nat → Int32} {n : Nat} (h : tail66 A B) (k : MtOk A n) : MtOk B n := by
  intro t ht
  obtain ⟨h1, h2⟩ := k t ht
  rw [mLen_congr h, code_congr h, h _ (by omega)]
  exact ⟨h1, h2⟩
theorem tail66.up {A B : Nat → Int32} {j : Nat} {v : Int32} (h : tail66 A B) (hj : j < 66) : tail66 A (upd B j v) := fun i hi => by simp only [upd, show i ≠ j by omega, if_false]; exact h i hi
theorem tail66.rf (A : Nat → Int32) : tail66 A A := fun _ _ => rfl
theorem upd_id (A : Nat → Int32) (j : Nat) : upd A j (A j) = A := by funext k; simp only [upd]; split <;> simp_all
theorem upd_upd (A : Nat → Int32) (j : Nat) (v w : Int32) : upd (upd A j v) j w = upd A j w := by funext k; simp only [upd]; split <;> rfl
theorem upd_at (A : Nat → Int32) (j : Nat) (v : Int32) : upd A j v j = v := by simp [upd]
theorem upd_ne {A : Nat → Int32} {j k : Nat} {v : Int32} (h : k ≠ j) : upd A j v k = A k := by simp [upd, h]
def mPay1 (lw : LawT) (A : Nat → Int32) (a : Nat) : Nat → Int32 :=
  upd (upd (upd A (26 + 5 * a + 3) (A (26 + 5 * a + 3) - minI (A (26 + 5 * a + 3)) (mRent lw A a))) 3 (A 3 + minI (A (26 + 5 * a + 3)) (mRent lw A a))) (26 + 5 * a + 4) (clampI (A (26 + 5 * a + 4) + mRent lw A a - minI (A (26 + 5 * a + 3)) (mRent lw A a)) 0 9999)
def mPaysTo (lw : LawT) (A : Nat → Int32) : Nat → Nat → Int32
  | 0 => A
  | k + 1 => mPay1 lw (mPaysTo lw A k) k
def mWageTo (A : Nat → Int32) : Nat → Nat → Int32
  | 0 => A
  | k + 1 => upd (mWageTo A k) (26 + 5 * k + 3) (clampI (mWageTo A k (26 + 5 * k + 3) + mWageTo A k 8) 0 9999)
theorem mPaysTo_lo {lw : LawT} {A : Nat → Int32} {j : Nat} (hj : j < 26) (h3 : j ≠ 3) : ∀ k, mPaysTo lw A k j = A j
  | 0 => rfl
  | k + 1 => by
    simp only [mPaysTo, mPay1, upd, h3, show j ≠ 26 + 5 * k + 3 by omega, show j ≠ 26 + 5 * k + 4 by omega, if_false]
    exact mPaysTo_lo hj h3 k
theorem mPaysTo_hi {lw : LawT} {A : Nat → Int32} : ∀ k, k ≤ 8 → tail66 A (mPaysTo lw A k)
  | 0, _ => tail66.rf A
  | k + 1, hk => (((mPaysTo_hi k (by omega)).up (by omega)).up (by omega)).up (by omega)
theorem mWageTo_lo {A : Nat → Int32} {j : Nat} (hj : j < 26) : ∀ k, mWageTo A k j = A j
  | 0 => rfl
  | k + 1 => by
    simp only [mWageTo, upd, show j ≠ 26 + 5 * k + 3 by omega, if_false]
    exact mWageTo_lo hj k
theorem mWageTo_hi {A : Nat → Int32} : ∀ k, k ≤ 8 → tail66 A (mWageTo A k)
  | 0, _ => tail66.rf A
  | k + 1, hk => (mWageTo_hi k (by omega)).up (by omega)
def mPay (lw : LawT) (n : Nat) (A : Nat → Int32) : Nat → Int32 := if dr1 A < A 6 then upd (hA0 A) 4 (A 4 + 1) else mPaysTo lw (hA0 A) n
def mWage (n : Nat) (B : Nat → Int32) : Nat → Int32 := if jr (B 2) 24 = 6 then mWageTo B n else B
def mHourF (lw : LawT) (n : Nat) (A : Nat → Int32) : Nat → Int32 := hEnd (mWage n (hSm A (mPay lw n A)))
theorem dX7_draw_0 : decode fX7_draw.2.1 0 = .ok (.aload_n 0, 1) := by decide +kernel
theorem dX7_draw_1 : decode fX7_draw.2.1 1 = .ok (.getfield 9, 3) := by decide +kernel
theorem dX7_draw_4 : decode fX7_draw.2.1 4 = .ok (.iconst 0, 1) := by decide +kernel
theorem dX7_draw_5 : decode fX7_draw.2.1 5 = .ok (.aload_n 0, 1) := by decide +kernel
theorem dX7_draw_6 : decode fX7_draw.2.1 6 = .ok (.getfield 9, 3) := by decide +kernel
theorem dX7_draw_9 : decode fX7_draw.2.1 9 = .ok (.iconst 0, 1) := by decide +kernel
theorem dX7_draw_10 : decode fX7_draw.2.1 10 = .ok (.iaload, 1) := by decide +kernel
theorem dX7_draw_11 : decode fX7_draw.2.1 11 = .ok (.ldc 151, 2) := by decide +kernel
theorem dX7_draw_13 : decode fX7_draw.2.1 13 = .ok (.imul, 1) := by decide +kernel
theorem dX7_draw_14 : decode fX7_draw.2.1 14 = .ok (.sipush 12345, 3) := by decide +kernel
theorem dX7_draw_17 : decode fX7_draw.2.1 17 = .ok (.iadd, 1) := by decide +kernel
theorem dX7_draw_18 : decode fX7_draw.2.1 18 = .ok (.iastore, 1) := by decide +kernel
theorem dX7_draw_19 : decode fX7_draw.2.1 19 = .ok (.aload_n 0, 1) := by decide +kernel
theorem dX7_draw_20 : decode fX7_draw.2.1 20 = .ok (.getfield 9, 3) := by decide +kernel
theorem dX7_draw_23 : decode fX7_draw.2.1 23 = .ok (.iconst 0, 1) := by decide +kernel
theorem dX7_draw_24 : decode fX7_draw.2.1 24 = .ok (.iaload, 1) := by decide +kernel
theorem dX7_draw_25 : decode fX7_draw.2.1 25 = .ok (.bipush 8, 2) := by decide +kernel
theorem dX7_draw_27 : decode fX7_draw.2.1 27 = .ok (.iushr, 1) := by decide +kernel
theorem dX7_draw_28 : decode fX7_draw.2.1 28 = .ok (.ireturn, 1) := by decide +kernel
set_option maxRecDepth 100000 in
set_option maxHeartbeats 4000000 in
theorem ok_X7_draw {X : Xb} {S : Sg} {mi : Mem} {o : Nat} (hM : MdA S o) : OkI 0 fX7_draw X [rf X o] S mi (jus (nz1 (mi (o + 1) 0)) 8) (m_up mi (o + 1) 0 (nz1 (mi (o + 1) 0))) := by
  refine Ok.go [some (rf X o)] (by decide) (by simp [Value.category]) (Nat.le_of_ble_eq_true rfl) rfl ?_
  obtain ⟨k_o, ⟨r_o_now, k_o_now⟩, ⟨r_o_image, k_o_image⟩, ⟨r_o_aside, k_o_aside⟩, ⟨r_o_seen, k_o_seen⟩, ⟨r_o_unlike, k_o_unlike⟩, ⟨r_o_tape, k_o_tape⟩, ⟨r_o_keys, k_o_keys⟩, ⟨r_o_keyAt, k_o_keyAt⟩, ⟨r_o_code, k_o_code⟩, ⟨r_o_waits, k_o_waits⟩, ⟨r_o_tested, k_o_tested⟩, ⟨r_o_stack, k_o_stack⟩, ⟨r_o_facts, k_o_facts⟩, ⟨r_o_sorts, k_o_sorts⟩, ⟨r_o_sizes, k_o_sizes⟩, ⟨r_o_cells, k_o_cells⟩, ⟨r_o_holds, k_o_holds⟩, ⟨r_o_holdsA, k_o_holdsA⟩, ⟨r_o_holdsB, k_o_holdsB⟩, ⟨r_o_heldCells, k_o_heldCells⟩, ⟨r_o_moved, k_o_moved⟩, ⟨r_o_tells, k_o_tells⟩⟩ := id hM
  refine mw_aload_n dX7_draw_0 rfl ?_
  refine mw_getr dX7_draw_1 fl_X7_9 rfl (by assumption) (by assumption) ?_
  refine mw_iconst (v := 0) dX7_draw_4 (by decide) ?_
  refine mw_aload_n dX7_draw_5 rfl ?_
  refine mw_getr dX7_draw_6 fl_X7_9 rfl (by assumption) (by assumption) ?_
  refine mw_iconst (v := 0) dX7_draw_9 (by decide) ?_
  refine mw_ialdK (k := 0) dX7_draw_10 (by assumption) (rfl) (by decide) (by decide) ?_
  refine mw_ldc dX7_draw_11 cn_X7_151 ?_
  refine mw_imul dX7_draw_13 ?_
  refine mw_sipush (v := 12345) dX7_draw_14 (by decide) ?_
  refine mw_iadd dX7_draw_17 ?_
  refine mw_iastK (k := 0) dX7_draw_18 (by assumption) (rfl) (by decide) (by decide) ?_
  refine mw_aload_n dX7_draw_19 rfl ?_
  refine mw_getr dX7_draw_20 fl_X7_9 rfl (by assumption) (by assumption) ?_
  refine mw_iconst (v := 0) dX7_draw_23 (by decide) ?_
  refine mw_ialdK (k := 0) dX7_draw_24 (by assumption) (rfl) (by decide) (by decide) ?_
  refine mw_bipush (v := 8) dX7_draw_25 (by decide) ?_
  refine mw_iushr dX7_draw_27 ?_
  exact mw_iret dX7_draw_28 rfl (by decide) (by decide) (⟨by simp [m_up, nz1], rfl, rfl⟩)
theorem dX7_pays_0 : decode fX7_pays.2.1 0 = .ok (.aload_n 0, 1) := by decide +kernel
theorem dX7_pays_1 : decode fX7_pays.2.1 1 = .ok (.iload_n 1, 1) := by decide +kernel
theorem dX7_pays_2 : decode fX7_pays.2.1 2 = .ok (.invokevirtual 135, 3) := by decide +kernel
theorem dX7_pays_5 : decode fX7_pays.2.1 5 = .ok (.istore_n 2, 1) := by decide +kernel
theorem dX7_pays_6 : decode fX7_pays.2.1 6 = .ok (.iload_n 2, 1) := by decide +kernel
theorem dX7_pays_7 : decode fX7_pays.2.1 7 = .ok (.aload_n 0, 1) := by decide +kernel
theorem dX7_pays_8 : decode fX7_pays.2.1 8 = .ok (.iload_n 1, 1) := by decide +kernel
theorem dX7_pays_9 : decode fX7_pays.2.1 9 = .ok (.iconst 3, 1) := by decide +kernel
theorem dX7_pays_10 : decode fX7_pays.2.1 10 = .ok (.invokevirtual 86, 3) := by decide +kernel
theorem dX7_pays_13 : decode fX7_pays.2.1 13 = .ok (.if_icmp .ge 7, 3) := by decide +kernel
theorem dX7_pays_16 : decode fX7_pays.2.1 16 = .ok (.iload_n 2, 1) := by decide +kernel
theorem dX7_pays_17 : decode fX7_pays.2.1 17 = .ok (.goto 9, 3) := by decide +kernel
theorem dX7_pays_20 : decode fX7_pays.2.1 20 = .ok (.aload_n 0, 1) := by decide +kernel
theorem dX7_pays_21 : decode fX7_pays.2.1 21 = .ok (.iload_n 1, 1) := by decide +kernel
theorem dX7_pays_22 : decode fX7_pays.2.1 22 = .ok (.iconst 3, 1) := by decide +kernel
theorem dX7_pays_23 : decode fX7_pays.2.1 23 = .ok (.invokevirtual 86, 3) := by decide +kernel
theorem dX7_pays_26 : decode fX7_pays.2.1 26 = .ok (.istore_n 3, 1) := by decide +kernel
theorem dX7_pays_27 : decode fX7_pays.2.1 27 = .ok (.aload_n 0, 1) := by decide +kernel
theorem dX7_pays_28 : decode fX7_pays.2.1 28 = .ok (.iload_n 1, 1) := by decide +kernel
theorem dX7_pays_29 : decode fX7_pays.2.1 29 = .ok (.iconst 3, 1) := by decide +kernel
theorem dX7_pays_30 : decode fX7_pays.2.1 30 = .ok (.aload_n 0, 1) := by decide +kernel
theorem dX7_pays_31 : decode fX7_pays.2.1 31 = .ok (.iload_n 1, 1) := by decide +kernel
theorem dX7_pays_32 : decode fX7_pays.2.1 32 = .ok (.iconst 3, 1) := by decide +kernel
theorem dX7_pays_33 : decode fX7_pays.2.1 33 = .ok (.invokevirtual 86, 3) := by decide +kernel
theorem dX7_pays_36 : decode fX7_pays.2.1 36 = .ok (.iload_n 3, 1) := by decide +kernel
theorem dX7_pays_37 : decode fX7_pays.2.1 37 = .ok (.isub, 1) := by decide +kernel
theorem dX7_pays_38 : decode fX7_pays.2.1 38 = .ok (.invokevirtual 119, 3) := by decide +kernel
theorem dX7_pays_41 : decode fX7_pays.2.1 41 = .ok (.aload_n 0, 1) := by decide +kernel
theorem dX7_pays_42 : decode fX7_pays.2.1 42 = .ok (.getfield 9, 3) := by decide +kernel
theorem dX7_pays_45 : decode fX7_pays.2.1 45 = .ok (.iconst 3, 1) := by decide +kernel
theorem dX7_pays_46 : decode fX7_pays.2.1 46 = .ok (.dup2, 1) := by decide +kernel
theorem dX7_pays_47 : decode fX7_pays.2.1 47 = .ok (.iaload, 1) := by decide +kernel
theorem dX7_pays_48 : decode fX7_pays.2.1 48 = .ok (.iload_n 3, 1) := by decide +kernel
theorem dX7_pays_49 : decode fX7_pays.2.1 49 = .ok (.iadd, 1) := by decide +kernel
theorem dX7_pays_50 : decode fX7_pays.2.1 50 = .ok (.iastore, 1) := by decide +kernel
theorem dX7_pays_51 : decode fX7_pays.2.1 51 = .ok (.aload_n 0, 1) := by decide +kernel
theorem dX7_pays_52 : decode fX7_pays.2.1 52 = .ok (.iload_n 1, 1) := by decide +kernel
theorem dX7_pays_53 : decode fX7_pays.2.1 53 = .ok (.iconst 4, 1) := by decide +kernel
theorem dX7_pays_54 : decode fX7_pays.2.1 54 = .ok (.aload_n 0, 1) := by decide +kernel
theorem dX7_pays_55 : decode fX7_pays.2.1 55 = .ok (.iload_n 1, 1) := by decide +kernel
theorem dX7_pays_56 : decode fX7_pays.2.1 56 = .ok (.iconst 4, 1) := by decide +kernel
theorem dX7_pays_57 : decode fX7_pays.2.1 57 = .ok (.invokevirtual 86, 3) := by decide +kernel
theorem dX7_pays_60 : decode fX7_pays.2.1 60 = .ok (.iload_n 2, 1) := by decide +kernel
theorem dX7_pays_61 : decode fX7_pays.2.1 61 = .ok (.iadd, 1) := by decide +kernel
theorem dX7_pays_62 : decode fX7_pays.2.1 62 = .ok (.iload_n 3, 1) := by decide +kernel
theorem dX7_pays_63 : decode fX7_pays.2.1 63 = .ok (.isub, 1) := by decide +kernel
theorem dX7_pays_64 : decode fX7_pays.2.1 64 = .ok (.iconst 0, 1) := by decide +kernel
theorem dX7_pays_65 : decode fX7_pays.2.1 65 = .ok (.sipush 9999, 3) := by decide +kernel
theorem dX7_pays_68 : decode fX7_pays.2.1 68 = .ok (.invokestatic 82, 3) := by decide +kernel
theorem dX7_pays_71 : decode fX7_pays.2.1 71 = .ok (.invokevirtual 119, 3) := by decide +kernel
theorem dX7_pays_74 : decode fX7_pays.2.1 74 = .ok (.return_, 1) := by decide +kernel
set_option maxRecDepth 100000 in
set_option maxHeartbeats 4000000 in
theorem ok_X7_pays {X : Xb} {S : Sg} {mi : Mem} {o a n : Nat} (hM : MdA S o) (ha : a < 8) (hn : mi (o + 1) 5 = nI n) (hn14 : n ≤ 14) (ht : MtOk (mi (o + 1)) n) : Ok 5 0 0 fX7_pays X [rf X o, .int (nI a)] S mi (fun r S' m => r = none ∧ S' = S ∧ m (o + 1) = mPay1 (lwM (mi (o + 1)) 0 n) (mi (o + 1)) a ∧ FrM o mi m) := by
  refine Ok.go [some (rf X o), some (.int (nI a)), none, none] (by decide) (by simp [Value.category]) (Nat.le_of_ble_eq_true rfl) rfl ?_
  obtain ⟨k_o, ⟨r_o_now, k_o_now⟩, ⟨r_o_image, k_o_image⟩, ⟨r_o_aside, k_o_aside⟩, ⟨r_o_seen, k_o_seen⟩, ⟨r_o_unlike, k_o_unlike⟩, ⟨r_o_tape, k_o_tape⟩, ⟨r_o_keys, k_o_keys⟩, ⟨r_o_keyAt, k_o_keyAt⟩, ⟨r_o_code, k_o_code⟩, ⟨r_o_waits, k_o_waits⟩, ⟨r_o_tested, k_o_tested⟩, ⟨r_o_stack, k_o_stack⟩, ⟨r_o_facts, k_o_facts⟩, ⟨r_o_sorts, k_o_sorts⟩, ⟨r_o_sizes, k_o_sizes⟩, ⟨r_o_cells, k_o_cells⟩, ⟨r_o_holds, k_o_holds⟩, ⟨r_o_holdsA, k_o_holdsA⟩, ⟨r_o_holdsB, k_o_holdsB⟩, ⟨r_o_heldCells, k_o_heldCells⟩, ⟨r_o_moved, k_o_moved⟩, ⟨r_o_tells, k_o_tells⟩⟩ := id hM
  have s26 : ∀ (m : Mem) (R p : Int32), ScrM o mi m → mRent (lwM (mi (o + 1)) 0 n) (mi (o + 1)) a = R → minI (mi (o + 1) (26 + 5 * a + 3)) R = p → MW X fX7_pays (rmOf 5 0 0) 0 0 26 [some (rf X o), some (.int (nI a)), some (.int R), none] [.int p] S m (mQ X 0 0 (fun r S' m => r = none ∧ S' = S ∧ m (o + 1) = mPay1 (lwM (mi (o + 1)) 0 n) (mi (o + 1)) a ∧ FrM o mi m)) := by
    intro m R p hs hR hp
    have em : m (o + 1) = mi (o + 1) := hs _ (by omega) (by omega)
    refine mw_istN 3 dX7_pays_26 rfl (by decide) ?_
    refine mw_aload_n dX7_pays_27 rfl ?_
    refine mw_iload_n dX7_pays_28 rfl ?_
    refine mw_iconst (v := 3) dX7_pays_29 (by decide) ?_
    refine mw_aload_n dX7_pays_30 rfl ?_
    refine mw_iload_n dX7_pays_31 rfl ?_
    refine mw_iconst (v := 3) dX7_pays_32 (by decide) ?_
    refine mw_cVI (g := fX7_of) dX7_pays_33 ml_X7_86 mfX7_of (ok_X7_of hM (a := a) (w := 3) ha (by decide)) (by assumption) rfl rfl (Nat.le_of_ble_eq_true rfl) ⟨by decide, by decide⟩ ⟨by decide, by decide⟩ ?_
    refine mw_iload_n dX7_pays_36 rfl ?_
    refine mw_isub dX7_pays_37 ?_
    refine mw_cVV (g := fX7_put) dX7_pays_38 ml_X7_119 mfX7_put (ok_X7_put hM (a := a) (w := 3) ha (by decide)) (by assumption) rfl rfl (Nat.le_of_ble_eq_true rfl) ⟨by decide, by decide⟩ ⟨by decide, by decide⟩ ?_
    refine mw_aload_n dX7_pays_41 rfl ?_
    refine mw_getr dX7_pays_42 fl_X7_9 rfl (by assumption) (by assumption) ?_
    refine mw_iconst (v := 3) dX7_pays_45 (by decide) ?_
    refine mw_dup2 dX7_pays_46 rfl rfl ?_
    refine mw_ialdK (k := 3) dX7_pays_47 (by assumption) (rfl) (by decide) (by decide) ?_
    refine mw_iload_n dX7_pays_48 rfl ?_
    refine mw_iadd dX7_pays_49 ?_
    refine mw_iastK (k := 3) dX7_pays_50 (by assumption) (rfl) (by decide) (by decide) ?_
    refine mw_aload_n dX7_pays_51 rfl ?_
    refine mw_iload_n dX7_pays_52 rfl ?_
    refine mw_iconst (v := 4) dX7_pays_53 (by decide) ?_
    refine mw_aload_n dX7_pays_54 rfl ?_
    refine mw_iload_n dX7_pays_55 rfl ?_
    refine mw_iconst (v := 4) dX7_pays_56 (by decide) ?_
    refine mw_cVI (g := fX7_of) dX7_pays_57 ml_X7_86 mfX7_of (ok_X7_of hM (a := a) (w := 4) ha (by decide)) (by assumption) rfl rfl (Nat.le_of_ble_eq_true rfl) ⟨by decide, by decide⟩ ⟨by decide, by decide⟩ ?_
    refine mw_iload_n dX7_pays_60 rfl ?_
    refine mw_iadd dX7_pays_61 ?_
    refine mw_iload_n dX7_pays_62 rfl ?_
    refine mw_isub dX7_pays_63 ?_
    refine mw_iconst (v := 0) dX7_pays_64 (by decide) ?_
    refine mw_sipush (v := 9999) dX7_pays_65 (by decide) ?_
    refine mw_cSI (g := fX7_within) dX7_pays_68 ml_X7_82 mfX7_within (ok_X7_within) rfl rfl (Nat.le_of_ble_eq_true rfl) ⟨by decide, by decide⟩ ⟨by decide, by decide⟩ ?_
    refine mw_cVV (g := fX7_put) dX7_pays_71 ml_X7_119 mfX7_put (ok_X7_put hM (a := a) (w := 4) ha (by decide)) (by assumption) rfl rfl (Nat.le_of_ble_eq_true rfl) ⟨by decide, by decide⟩ ⟨by decide, by decide⟩ ?_
    exact mw_vret dX7_pays_74 rfl (by decide) (by decide) (⟨rfl, rfl, by simp only [m_up_row, em, mPay1, hR, hp]; rw [upd_ne (show 3 ≠ 26 + 5 * a + 3 by omega), upd_ne (show 26 + 5 * a + 4 ≠ 3 by omega), upd_ne (show 26 + 5 * a + 4 ≠ 26 + 5 * a + 3 by omega)], (((FrM.scr hs).up).up).up⟩)
  refine mw_aload_n dX7_pays_0 rfl ?_
  refine mw_iload_n dX7_pays_1 rfl ?_
  refine mw_callV (g := fX7_rentOf) dX7_pays_2 ml_X7_135 mfX7_rentOf (ok_X7_rentOf hM ha hn hn14 ht) (by assumption) rfl rfl (Nat.le_of_ble_eq_true rfl) ⟨by decide, by decide⟩ ⟨by decide, by decide⟩ (fun r S2 mi2 hp => ?_)
  obtain ⟨rfl, e1, hs⟩ := hp
  rw [e1]
  have em : mi2 (o + 1) = mi (o + 1) := hs _ (by omega) (by omega)
  generalize hR : mRent (lwM (mi (o + 1)) 0 n) (mi (o + 1)) a = R
  refine mw_istN 2 dX7_pays_5 rfl (by decide) ?_
  refine mw_iload_n dX7_pays_6 rfl ?_
  refine mw_aload_n dX7_pays_7 rfl ?_
  refine mw_iload_n dX7_pays_8 rfl ?_
  refine mw_iconst (v := 3) dX7_pays_9 (by decide) ?_
  refine mw_cVI (g := fX7_of) dX7_pays_10 ml_X7_86 mfX7_of (ok_X7_of hM (a := a) (w := 3) ha (by decide)) (by assumption) rfl rfl (Nat.le_of_ble_eq_true rfl) ⟨by decide, by decide⟩ ⟨by decide, by decide⟩ ?_
  rw [em]
  refine mw_icmp_ge (tgt := 20) dX7_pays_13 (by decide) (fun h13 => ?_) (fun h13 => ?_)
  · skip
    refine mw_aload_n dX7_pays_20 rfl ?_
    refine mw_iload_n dX7_pays_21 rfl ?_
    refine mw_iconst (v := 3) dX7_pays_22 (by decide) ?_
    refine mw_cVI (g := fX7_of) dX7_pays_23 ml_X7_86 mfX7_of (ok_X7_of hM (a := a) (w := 3) ha (by decide)) (by assumption) rfl rfl (Nat.le_of_ble_eq_true rfl) ⟨by decide, by decide⟩ ⟨by decide, by decide⟩ ?_
    first
      | exact MW.sub (by simp [lsub]) (s26 mi2 R _ hs hR (by rw [minI, if_pos (Int32.not_le.mp h13)]))
      | (rw [em]; exact MW.sub (by simp [lsub]) (s26 mi2 R _ hs hR (by rw [minI, if_neg (Int32.not_lt.mpr h13)])))
  · skip
    refine mw_iload_n dX7_pays_16 rfl ?_
    refine mw_goto (tgt := 26) dX7_pays_17 (by decide) ?_
    first
      | exact MW.sub (by simp [lsub]) (s26 mi2 R _ hs hR (by rw [minI, if_pos (Int32.not_le.mp h13)]))
      | (rw [em]; exact MW.sub (by simp [lsub]) (s26 mi2 R _ hs hR (by rw [minI, if_neg (Int32.not_lt.mpr h13)])))
theorem dX7_hour_0 : decode fX7_hour.2.1 0 = .ok (.aload_n 0, 1) := by decide +kernel
theorem dX7_hour_1 : decode fX7_hour.2.1 1 = .ok (.invokevirtual 152, 3) := by decide +kernel
theorem dX7_hour_4 : decode fX7_hour.2.1 4 = .ok (.bipush 100, 2) := by decide +kernel
theorem dX7_hour_6 : decode fX7_hour.2.1 6 = .ok (.irem, 1) := by decide +kernel
theorem dX7_hour_7 : decode fX7_hour.2.1 7 = .ok (.aload_n 0, 1) := by decide +kernel
theorem dX7_hour_8 : decode fX7_hour.2.1 8 = .ok (.getfield 9, 3) := by decide +kernel
theorem dX7_hour_11 : decode fX7_hour.2.1 11 = .ok (.bipush 6, 2) := by decide +kernel
theorem dX7_hour_13 : decode fX7_hour.2.1 13 = .ok (.iaload, 1) := by decide +kernel
theorem dX7_hour_14 : decode fX7_hour.2.1 14 = .ok (.if_icmp .ge 7, 3) := by decide +kernel
theorem dX7_hour_17 : decode fX7_hour.2.1 17 = .ok (.iconst 1, 1) := by decide +kernel
theorem dX7_hour_18 : decode fX7_hour.2.1 18 = .ok (.goto 4, 3) := by decide +kernel
theorem dX7_hour_21 : decode fX7_hour.2.1 21 = .ok (.iconst 0, 1) := by decide +kernel
theorem dX7_hour_22 : decode fX7_hour.2.1 22 = .ok (.istore_n 1, 1) := by decide +kernel
theorem dX7_hour_23 : decode fX7_hour.2.1 23 = .ok (.aload_n 0, 1) := by decide +kernel
theorem dX7_hour_24 : decode fX7_hour.2.1 24 = .ok (.invokevirtual 152, 3) := by decide +kernel
theorem dX7_hour_27 : decode fX7_hour.2.1 27 = .ok (.bipush 100, 2) := by decide +kernel
theorem dX7_hour_29 : decode fX7_hour.2.1 29 = .ok (.irem, 1) := by decide +kernel
theorem dX7_hour_30 : decode fX7_hour.2.1 30 = .ok (.aload_n 0, 1) := by decide +kernel
theorem dX7_hour_31 : decode fX7_hour.2.1 31 = .ok (.getfield 9, 3) := by decide +kernel
theorem dX7_hour_34 : decode fX7_hour.2.1 34 = .ok (.bipush 7, 2) := by decide +kernel
theorem dX7_hour_36 : decode fX7_hour.2.1 36 = .ok (.iaload, 1) := by decide +kernel
theorem dX7_hour_37 : decode fX7_hour.2.1 37 = .ok (.if_icmp .ge 7, 3) := by decide +kernel
theorem dX7_hour_40 : decode fX7_hour.2.1 40 = .ok (.iconst 1, 1) := by decide +kernel
theorem dX7_hour_41 : decode fX7_hour.2.1 41 = .ok (.goto 4, 3) := by decide +kernel
theorem dX7_hour_44 : decode fX7_hour.2.1 44 = .ok (.iconst 0, 1) := by decide +kernel
theorem dX7_hour_45 : decode fX7_hour.2.1 45 = .ok (.istore_n 2, 1) := by decide +kernel
theorem dX7_hour_46 : decode fX7_hour.2.1 46 = .ok (.aload_n 0, 1) := by decide +kernel
theorem dX7_hour_47 : decode fX7_hour.2.1 47 = .ok (.getfield 9, 3) := by decide +kernel
theorem dX7_hour_50 : decode fX7_hour.2.1 50 = .ok (.iconst 4, 1) := by decide +kernel
theorem dX7_hour_51 : decode fX7_hour.2.1 51 = .ok (.dup2, 1) := by decide +kernel
theorem dX7_hour_52 : decode fX7_hour.2.1 52 = .ok (.iaload, 1) := by decide +kernel
theorem dX7_hour_53 : decode fX7_hour.2.1 53 = .ok (.iload_n 1, 1) := by decide +kernel
theorem dX7_hour_54 : decode fX7_hour.2.1 54 = .ok (.ifCond .eq 7, 3) := by decide +kernel
theorem dX7_hour_57 : decode fX7_hour.2.1 57 = .ok (.iconst 1, 1) := by decide +kernel
theorem dX7_hour_58 : decode fX7_hour.2.1 58 = .ok (.goto 4, 3) := by decide +kernel
theorem dX7_hour_61 : decode fX7_hour.2.1 61 = .ok (.iconst 0, 1) := by decide +kernel
theorem dX7_hour_62 : decode fX7_hour.2.1 62 = .ok (.iadd, 1) := by decide +kernel
theorem dX7_hour_63 : decode fX7_hour.2.1 63 = .ok (.iastore, 1) := by decide +kernel
theorem dX7_hour_64 : decode fX7_hour.2.1 64 = .ok (.iconst 0, 1) := by decide +kernel
theorem dX7_hour_65 : decode fX7_hour.2.1 65 = .ok (.istore_n 3, 1) := by decide +kernel
theorem dX7_hour_66 : decode fX7_hour.2.1 66 = .ok (.iload_n 3, 1) := by decide +kernel
theorem dX7_hour_67 : decode fX7_hour.2.1 67 = .ok (.aload_n 0, 1) := by decide +kernel
theorem dX7_hour_68 : decode fX7_hour.2.1 68 = .ok (.getfield 9, 3) := by decide +kernel
theorem dX7_hour_71 : decode fX7_hour.2.1 71 = .ok (.iconst 1, 1) := by decide +kernel
theorem dX7_hour_72 : decode fX7_hour.2.1 72 = .ok (.iaload, 1) := by decide +kernel
theorem dX7_hour_73 : decode fX7_hour.2.1 73 = .ok (.if_icmp .ge 18, 3) := by decide +kernel
theorem dX7_hour_76 : decode fX7_hour.2.1 76 = .ok (.iload_n 1, 1) := by decide +kernel
theorem dX7_hour_77 : decode fX7_hour.2.1 77 = .ok (.ifCond .ne 14, 3) := by decide +kernel
theorem dX7_hour_80 : decode fX7_hour.2.1 80 = .ok (.aload_n 0, 1) := by decide +kernel
theorem dX7_hour_81 : decode fX7_hour.2.1 81 = .ok (.iload_n 3, 1) := by decide +kernel
theorem dX7_hour_82 : decode fX7_hour.2.1 82 = .ok (.invokevirtual 156, 3) := by decide +kernel
theorem dX7_hour_85 : decode fX7_hour.2.1 85 = .ok (.iinc 3 1, 3) := by decide +kernel
theorem dX7_hour_88 : decode fX7_hour.2.1 88 = .ok (.goto (-22), 3) := by decide +kernel
theorem dX7_hour_91 : decode fX7_hour.2.1 91 = .ok (.iload_n 2, 1) := by decide +kernel
theorem dX7_hour_92 : decode fX7_hour.2.1 92 = .ok (.ifCond .eq 22, 3) := by decide +kernel
theorem dX7_hour_95 : decode fX7_hour.2.1 95 = .ok (.aload_n 0, 1) := by decide +kernel
theorem dX7_hour_96 : decode fX7_hour.2.1 96 = .ok (.getfield 9, 3) := by decide +kernel
theorem dX7_hour_99 : decode fX7_hour.2.1 99 = .ok (.bipush 9, 2) := by decide +kernel
theorem dX7_hour_101 : decode fX7_hour.2.1 101 = .ok (.dup2, 1) := by decide +kernel
theorem dX7_hour_102 : decode fX7_hour.2.1 102 = .ok (.iaload, 1) := by decide +kernel
theorem dX7_hour_103 : decode fX7_hour.2.1 103 = .ok (.iconst 1, 1) := by decide +kernel
theorem dX7_hour_104 : decode fX7_hour.2.1 104 = .ok (.aload_n 0, 1) := by decide +kernel
theorem dX7_hour_105 : decode fX7_hour.2.1 105 = .ok (.invokevirtual 152, 3) := by decide +kernel
theorem dX7_hour_108 : decode fX7_hour.2.1 108 = .ok (.bipush 24, 2) := by decide +kernel
theorem dX7_hour_110 : decode fX7_hour.2.1 110 = .ok (.irem, 1) := by decide +kernel
theorem dX7_hour_111 : decode fX7_hour.2.1 111 = .ok (.ishl, 1) := by decide +kernel
theorem dX7_hour_112 : decode fX7_hour.2.1 112 = .ok (.ixor, 1) := by decide +kernel
theorem dX7_hour_113 : decode fX7_hour.2.1 113 = .ok (.iastore, 1) := by decide +kernel
theorem dX7_hour_114 : decode fX7_hour.2.1 114 = .ok (.iconst 0, 1) := by decide +kernel
theorem dX7_hour_115 : decode fX7_hour.2.1 115 = .ok (.istore_n 3, 1) := by decide +kernel
theorem dX7_hour_116 : decode fX7_hour.2.1 116 = .ok (.iload_n 3, 1) := by decide +kernel
theorem dX7_hour_117 : decode fX7_hour.2.1 117 = .ok (.aload_n 0, 1) := by decide +kernel
theorem dX7_hour_118 : decode fX7_hour.2.1 118 = .ok (.getfield 9, 3) := by decide +kernel
theorem dX7_hour_121 : decode fX7_hour.2.1 121 = .ok (.iconst 1, 1) := by decide +kernel
theorem dX7_hour_122 : decode fX7_hour.2.1 122 = .ok (.iaload, 1) := by decide +kernel
theorem dX7_hour_123 : decode fX7_hour.2.1 123 = .ok (.if_icmp .ge 50, 3) := by decide +kernel
theorem dX7_hour_126 : decode fX7_hour.2.1 126 = .ok (.aload_n 0, 1) := by decide +kernel
theorem dX7_hour_127 : decode fX7_hour.2.1 127 = .ok (.getfield 9, 3) := by decide +kernel
theorem dX7_hour_130 : decode fX7_hour.2.1 130 = .ok (.iconst 2, 1) := by decide +kernel
theorem dX7_hour_131 : decode fX7_hour.2.1 131 = .ok (.iaload, 1) := by decide +kernel
theorem dX7_hour_132 : decode fX7_hour.2.1 132 = .ok (.bipush 24, 2) := by decide +kernel
theorem dX7_hour_134 : decode fX7_hour.2.1 134 = .ok (.irem, 1) := by decide +kernel
theorem dX7_hour_135 : decode fX7_hour.2.1 135 = .ok (.bipush 6, 2) := by decide +kernel
theorem dX7_hour_137 : decode fX7_hour.2.1 137 = .ok (.if_icmp .ne 36, 3) := by decide +kernel
theorem dX7_hour_140 : decode fX7_hour.2.1 140 = .ok (.aload_n 0, 1) := by decide +kernel
theorem dX7_hour_141 : decode fX7_hour.2.1 141 = .ok (.iload_n 3, 1) := by decide +kernel
theorem dX7_hour_142 : decode fX7_hour.2.1 142 = .ok (.iconst 3, 1) := by decide +kernel
theorem dX7_hour_143 : decode fX7_hour.2.1 143 = .ok (.aload_n 0, 1) := by decide +kernel
theorem dX7_hour_144 : decode fX7_hour.2.1 144 = .ok (.iload_n 3, 1) := by decide +kernel
theorem dX7_hour_145 : decode fX7_hour.2.1 145 = .ok (.iconst 3, 1) := by decide +kernel
theorem dX7_hour_146 : decode fX7_hour.2.1 146 = .ok (.invokevirtual 86, 3) := by decide +kernel
theorem dX7_hour_149 : decode fX7_hour.2.1 149 = .ok (.aload_n 0, 1) := by decide +kernel
theorem dX7_hour_150 : decode fX7_hour.2.1 150 = .ok (.getfield 9, 3) := by decide +kernel
theorem dX7_hour_153 : decode fX7_hour.2.1 153 = .ok (.bipush 8, 2) := by decide +kernel
theorem dX7_hour_155 : decode fX7_hour.2.1 155 = .ok (.iaload, 1) := by decide +kernel
theorem dX7_hour_156 : decode fX7_hour.2.1 156 = .ok (.iadd, 1) := by decide +kernel
theorem dX7_hour_157 : decode fX7_hour.2.1 157 = .ok (.iconst 0, 1) := by decide +kernel
theorem dX7_hour_158 : decode fX7_hour.2.1 158 = .ok (.sipush 9999, 3) := by decide +kernel
theorem dX7_hour_161 : decode fX7_hour.2.1 161 = .ok (.invokestatic 82, 3) := by decide +kernel
theorem dX7_hour_164 : decode fX7_hour.2.1 164 = .ok (.invokevirtual 119, 3) := by decide +kernel
theorem dX7_hour_167 : decode fX7_hour.2.1 167 = .ok (.iinc 3 1, 3) := by decide +kernel
theorem dX7_hour_170 : decode fX7_hour.2.1 170 = .ok (.goto (-54), 3) := by decide +kernel
theorem dX7_hour_173 : decode fX7_hour.2.1 173 = .ok (.aload_n 0, 1) := by decide +kernel
theorem dX7_hour_174 : decode fX7_hour.2.1 174 = .ok (.getfield 9, 3) := by decide +kernel
theorem dX7_hour_177 : decode fX7_hour.2.1 177 = .ok (.iconst 2, 1) := by decide +kernel
theorem dX7_hour_178 : decode fX7_hour.2.1 178 = .ok (.dup2, 1) := by decide +kernel
theorem dX7_hour_179 : decode fX7_hour.2.1 179 = .ok (.iaload, 1) := by decide +kernel
theorem dX7_hour_180 : decode fX7_hour.2.1 180 = .ok (.iconst 1, 1) := by decide +kernel
theorem dX7_hour_181 : decode fX7_hour.2.1 181 = .ok (.iadd, 1) := by decide +kernel
theorem dX7_hour_182 : decode fX7_hour.2.1 182 = .ok (.iastore, 1) := by decide +kernel
theorem dX7_hour_183 : decode fX7_hour.2.1 183 = .ok (.return_, 1) := by decide +kernel
set_option maxRecDepth 100000 in
set_option maxHeartbeats 4000000 in
theorem ok_X7_hour {X : Xb} {S : Sg} {mi : Mem} {o c n : Nat} (hM : MdA S o) (hc : mi (o + 1) 1 = nI c) (hc8 : c ≤ 8) (hn : mi (o + 1) 5 = nI n) (hn14 : n ≤ 14) (ht : MtOk (mi (o + 1)) n) : Ok 6 0 0 fX7_hour X [rf X o] S mi (fun r S' m => r = none ∧ S' = S ∧ m (o + 1) = mHourF (lwM (mi (o + 1)) 0 n) c (mi (o + 1)) ∧ FrM o mi m) := by
  refine Ok.go [some (rf X o), none, none, none] (by decide) (by simp [Value.category]) (Nat.le_of_ble_eq_true rfl) rfl ?_
  obtain ⟨k_o, ⟨r_o_now, k_o_now⟩, ⟨r_o_image, k_o_image⟩, ⟨r_o_aside, k_o_aside⟩, ⟨r_o_seen, k_o_seen⟩, ⟨r_o_unlike, k_o_unlike⟩, ⟨r_o_tape, k_o_tape⟩, ⟨r_o_keys, k_o_keys⟩, ⟨r_o_keyAt, k_o_keyAt⟩, ⟨r_o_code, k_o_code⟩, ⟨r_o_waits, k_o_waits⟩, ⟨r_o_tested, k_o_tested⟩, ⟨r_o_stack, k_o_stack⟩, ⟨r_o_facts, k_o_facts⟩, ⟨r_o_sorts, k_o_sorts⟩, ⟨r_o_sizes, k_o_sizes⟩, ⟨r_o_cells, k_o_cells⟩, ⟨r_o_holds, k_o_holds⟩, ⟨r_o_holdsA, k_o_holdsA⟩, ⟨r_o_holdsB, k_o_holdsB⟩, ⟨r_o_heldCells, k_o_heldCells⟩, ⟨r_o_moved, k_o_moved⟩, ⟨r_o_tells, k_o_tells⟩⟩ := id hM
  generalize hA : mi (o + 1) = A at hc hn ht ⊢
  generalize hlw : lwM A 0 n = lw
  have s173 : ∀ (m : Mem), FrM o mi m → hEnd (m (o + 1)) = mHourF lw c A → MW X fX7_hour (rmOf 6 0 0) 0 0 173 [some (rf X o), none, none, none] [] S m (mQ X 0 0 (fun r S' m => r = none ∧ S' = S ∧ m (o + 1) = mHourF lw c A ∧ FrM o mi m)) := by
    intro m hF he
    refine mw_aload_n dX7_hour_173 rfl ?_
    refine mw_getr dX7_hour_174 fl_X7_9 rfl (by assumption) (by assumption) ?_
    refine mw_iconst (v := 2) dX7_hour_177 (by decide) ?_
    refine mw_dup2 dX7_hour_178 rfl rfl ?_
    refine mw_ialdK (k := 2) dX7_hour_179 (by assumption) (rfl) (by decide) (by decide) ?_
    refine mw_iconst (v := 1) dX7_hour_180 (by decide) ?_
    refine mw_iadd dX7_hour_181 ?_
    refine mw_iastK (k := 2) dX7_hour_182 (by assumption) (rfl) (by decide) (by decide) ?_
    exact mw_vret dX7_hour_183 rfl (by decide) (by decide) (⟨rfl, rfl, by rw [m_up_row, ← he, hEnd], hF.up⟩)
  have s116 : ∀ (m : Mem), FrM o mi m → m (o + 1) 1 = nI c → hEnd (mWage c (m (o + 1))) = mHourF lw c A → MW X fX7_hour (rmOf 6 0 0) 0 0 116 [some (rf X o), none, none, some (.int (nI 0))] [] S m (mQ X 0 0 (fun r S' m => r = none ∧ S' = S ∧ m (o + 1) = mHourF lw c A ∧ FrM o mi m)) := by
    intro m hF h1 he
    have w1 : ∀ k, (if jr (m (o + 1) 2) 24 = 6 then mWageTo (m (o + 1)) k else m (o + 1)) 1 = nI c := by
      intro k; split
      · rw [mWageTo_lo (by decide), h1]
      · exact h1
    have w2 : ∀ k, (if jr (m (o + 1) 2) 24 = 6 then mWageTo (m (o + 1)) k else m (o + 1)) 2 = m (o + 1) 2 := by
      intro k; split
      · rw [mWageTo_lo (by decide)]
      · rfl
    have lend : ∀ k, k = c → ∀ m2, m2 (o + 1) = (if jr (m (o + 1) 2) 24 = 6 then mWageTo (m (o + 1)) k else m (o + 1)) → FrM o mi m2 → MW X fX7_hour (rmOf 6 0 0) 0 0 116 [some (rf X o), none, none, some (.int (nI k))] [] S m2 (mQ X 0 0 (fun r S' m => r = none ∧ S' = S ∧ m (o + 1) = mHourF lw c A ∧ FrM o mi m)) := by
      intro k hk m2 h2 hF2
      subst hk
      have e1 : m2 (o + 1) 1 = nI k := by rw [h2]; exact w1 k
      refine mw_iload_n dX7_hour_116 rfl ?_
      refine mw_aload_n dX7_hour_117 rfl ?_
      refine mw_getr dX7_hour_118 fl_X7_9 rfl (by assumption) (by assumption) ?_
      refine mw_iconst (v := 1) dX7_hour_121 (by decide) ?_
      refine mw_ialdK (k := 1) dX7_hour_122 (by assumption) (rfl) (by decide) (by decide) ?_
      rw [e1]
      refine mw_icmp_ge (tgt := 173) dX7_hour_123 (by decide) (fun h123 => ?_) (fun h123 => ?_)
      · skip
        exact MW.sub (by simp [lsub]) (s173 m2 hF2 (by rw [h2, ← he, mWage]))
      · skip
        exact absurd (Int32.le_refl _) h123
    have lstep : ∀ k, k < c → (∀ j, j = k + 1 → ∀ m2, m2 (o + 1) = (if jr (m (o + 1) 2) 24 = 6 then mWageTo (m (o + 1)) j else m (o + 1)) → FrM o mi m2 → MW X fX7_hour (rmOf 6 0 0) 0 0 116 [some (rf X o), none, none, some (.int (nI j))] [] S m2 (mQ X 0 0 (fun r S' m => r = none ∧ S' = S ∧ m (o + 1) = mHourF lw c A ∧ FrM o mi m))) → ∀ m2, m2 (o + 1) = (if jr (m (o + 1) 2) 24 = 6 then mWageTo (m (o + 1)) k else m (o + 1)) → FrM o mi m2 → MW X fX7_hour (rmOf 6 0 0) 0 0 116 [some (rf X o), none, none, some (.int (nI k))] [] S m2 (mQ X 0 0 (fun r S' m => r = none ∧ S' = S ∧ m (o + 1) = mHourF lw c A ∧ FrM o mi m)) := by
      intro k hk ih m2 h2 hF2
      have ih := ih (k + 1) rfl
      have e1 : m2 (o + 1) 1 = nI c := by rw [h2]; exact w1 k
      have e2 : m2 (o + 1) 2 = m (o + 1) 2 := by rw [h2]; exact w2 k
      refine mw_iload_n dX7_hour_116 rfl ?_
      refine mw_aload_n dX7_hour_117 rfl ?_
      refine mw_getr dX7_hour_118 fl_X7_9 rfl (by assumption) (by assumption) ?_
      refine mw_iconst (v := 1) dX7_hour_121 (by decide) ?_
      refine mw_ialdK (k := 1) dX7_hour_122 (by assumption) (rfl) (by decide) (by decide) ?_
      rw [e1]
      refine mw_icmp_ge (tgt := 173) dX7_hour_123 (by decide) (fun h123 => ?_) (fun h123 => ?_)
      · skip
        first
          | exact absurd h123 (nI_ge hk (by omega))
          | exact MW.sub (by simp [lsub]) (s173 m2 hF2 (by rw [h2, if_neg h137, ← he, mWage, if_neg h137]))
      · skip
        refine mw_aload_n dX7_hour_126 rfl ?_
        refine mw_getr dX7_hour_127 fl_X7_9 rfl (by assumption) (by assumption) ?_
        refine mw_iconst (v := 2) dX7_hour_130 (by decide) ?_
        refine mw_ialdK (k := 2) dX7_hour_131 (by assumption) (rfl) (by decide) (by decide) ?_
        rw [e2]
        refine mw_bipush (v := 24) dX7_hour_132 (by decide) ?_
        refine mw_irem dX7_hour_134 (by decide) ?_
        refine mw_bipush (v := 6) dX7_hour_135 (by decide) ?_
        refine mw_icmp_ne (tgt := 173) dX7_hour_137 (by decide) (fun h137 => ?_) (fun h137 => ?_)
        · skip
          first
            | exact absurd h123 (nI_ge hk (by omega))
            | exact MW.sub (by simp [lsub]) (s173 m2 hF2 (by rw [h2, if_neg h137, ← he, mWage, if_neg h137]))
        · skip
          refine mw_aload_n dX7_hour_140 rfl ?_
          refine mw_iload_n dX7_hour_141 rfl ?_
          refine mw_iconst (v := 3) dX7_hour_142 (by decide) ?_
          refine mw_aload_n dX7_hour_143 rfl ?_
          refine mw_iload_n dX7_hour_144 rfl ?_
          refine mw_iconst (v := 3) dX7_hour_145 (by decide) ?_
          refine mw_cVI (g := fX7_of) dX7_hour_146 ml_X7_86 mfX7_of (ok_X7_of hM (a := k) (w := 3) (by omega) (by decide)) (by assumption) rfl rfl (Nat.le_of_ble_eq_true rfl) ⟨by decide, by decide⟩ ⟨by decide, by decide⟩ ?_
          refine mw_aload_n dX7_hour_149 rfl ?_
          refine mw_getr dX7_hour_150 fl_X7_9 rfl (by assumption) (by assumption) ?_
          refine mw_bipush (v := 8) dX7_hour_153 (by decide) ?_
          refine mw_ialdK (k := 8) dX7_hour_155 (by assumption) (rfl) (by decide) (by decide) ?_
          refine mw_iadd dX7_hour_156 ?_
          refine mw_iconst (v := 0) dX7_hour_157 (by decide) ?_
          refine mw_sipush (v := 9999) dX7_hour_158 (by decide) ?_
          refine mw_cSI (g := fX7_within) dX7_hour_161 ml_X7_82 mfX7_within (ok_X7_within) rfl rfl (Nat.le_of_ble_eq_true rfl) ⟨by decide, by decide⟩ ⟨by decide, by decide⟩ ?_
          refine mw_cVV (g := fX7_put) dX7_hour_164 ml_X7_119 mfX7_put (ok_X7_put hM (a := k) (w := 3) (by omega) (by decide)) (by assumption) rfl rfl (Nat.le_of_ble_eq_true rfl) ⟨by decide, by decide⟩ ⟨by decide, by decide⟩ ?_
          refine mw_iincK (k := k) dX7_hour_167 rfl rfl (by decide) ?_
          refine mw_goto (tgt := 116) dX7_hour_170 (by decide) ?_
          refine MW.sub (by simp [lsub]) (ih _ ?_ hF2.up)
          rw [if_pos h137] at h2 ⊢
          rw [m_up_row, h2]; rfl
    exact mw_dn (P := fun k => ∀ m2, m2 (o + 1) = (if jr (m (o + 1) 2) 24 = 6 then mWageTo (m (o + 1)) k else m (o + 1)) → FrM o mi m2 → MW X fX7_hour (rmOf 6 0 0) 0 0 116 [some (rf X o), none, none, some (.int (nI k))] [] S m2 (mQ X 0 0 (fun r S' m => r = none ∧ S' = S ∧ m (o + 1) = mHourF lw c A ∧ FrM o mi m))) c (lend c rfl) (fun k hk ih => lstep k hk (fun j hj => by subst hj; exact ih)) m (by simp only [mWageTo]; split <;> rfl) hF
  have s91 : ∀ (m : Mem) (b : Int32), FrM o mi m → m (o + 1) 1 = nI c → (b = 0 ↔ ¬ dr2 A < A 7) → hEnd (mWage c (hSm A (m (o + 1)))) = mHourF lw c A → MW X fX7_hour (rmOf 6 0 0) 0 0 91 [some (rf X o), none, some (.int b), none] [] S m (mQ X 0 0 (fun r S' m => r = none ∧ S' = S ∧ m (o + 1) = mHourF lw c A ∧ FrM o mi m)) := by
    intro m b hF h1 hb he
    refine mw_iload_n dX7_hour_91 rfl ?_
    refine mw_if_eq (tgt := 114) dX7_hour_92 (by decide) (fun h92 => ?_) (fun h92 => ?_)
    · skip
      refine mw_iconst (v := 0) dX7_hour_114 (by decide) ?_
      refine mw_istN 3 dX7_hour_115 rfl (by decide) ?_
      first
        | exact MW.sub (by simp [lsub, nI_0]) (s116 m hF h1 (by rw [← he, hSm, if_neg (hb.mp h92)]))
        | (refine MW.sub (by simp [lsub, nI_0]) (s116 _ hF.up.up ?_ ?_)
           · simp only [m_up_row]; simp [upd, h1]
           · have hp : dr2 A < A 7 := Classical.not_not.mp fun q => h92 (hb.mpr q)
             rw [← he, hSm, if_pos hp]
             simp only [m_up_row])
    · skip
      refine mw_aload_n dX7_hour_95 rfl ?_
      refine mw_getr dX7_hour_96 fl_X7_9 rfl (by assumption) (by assumption) ?_
      refine mw_bipush (v := 9) dX7_hour_99 (by decide) ?_
      refine mw_dup2 dX7_hour_101 rfl rfl ?_
      refine mw_ialdK (k := 9) dX7_hour_102 (by assumption) (rfl) (by decide) (by decide) ?_
      refine mw_iconst (v := 1) dX7_hour_103 (by decide) ?_
      refine mw_aload_n dX7_hour_104 rfl ?_
      refine mw_cVI (g := fX7_draw) dX7_hour_105 ml_X7_152 mfX7_draw (ok_X7_draw hM) (by assumption) rfl rfl (Nat.le_of_ble_eq_true rfl) ⟨by decide, by decide⟩ ⟨by decide, by decide⟩ ?_
      refine mw_bipush (v := 24) dX7_hour_108 (by decide) ?_
      refine mw_irem dX7_hour_110 (by decide) ?_
      refine mw_ishl dX7_hour_111 ?_
      refine mw_ixor dX7_hour_112 ?_
      refine mw_iastK (k := 9) dX7_hour_113 (by assumption) (rfl) (by decide) (by decide) ?_
      refine mw_iconst (v := 0) dX7_hour_114 (by decide) ?_
      refine mw_istN 3 dX7_hour_115 rfl (by decide) ?_
      first
        | exact MW.sub (by simp [lsub, nI_0]) (s116 m hF h1 (by rw [← he, hSm, if_neg (hb.mp h92)]))
        | (refine MW.sub (by simp [lsub, nI_0]) (s116 _ hF.up.up ?_ ?_)
           · simp only [m_up_row]; simp [upd, h1]
           · have hp : dr2 A < A 7 := Classical.not_not.mp fun q => h92 (hb.mpr q)
             rw [← he, hSm, if_pos hp]
             simp only [m_up_row])
  have s66 : ∀ (m : Mem) (a b : Int32), FrM o mi m → (a = 0 ↔ ¬ dr1 A < A 6) → (b = 0 ↔ ¬ dr2 A < A 7) → m (o + 1) = (if dr1 A < A 6 then upd (hA0 A) 4 (A 4 + 1) else hA0 A) → MW X fX7_hour (rmOf 6 0 0) 0 0 66 [some (rf X o), some (.int a), some (.int b), some (.int (nI 0))] [] S m (mQ X 0 0 (fun r S' m => r = none ∧ S' = S ∧ m (o + 1) = mHourF lw c A ∧ FrM o mi m)) := by
    intro m a b hF ha hb hm
    have v1 : ∀ k, (if dr1 A < A 6 then upd (hA0 A) 4 (A 4 + 1) else mPaysTo lw (hA0 A) k) 1 = nI c := by
      intro k; split
      · simp [upd, hA0, hc]
      · rw [mPaysTo_lo (by decide) (by decide)]; simp [upd, hA0, hc]
    have lend : ∀ k, k = c → ∀ m2, m2 (o + 1) = (if dr1 A < A 6 then upd (hA0 A) 4 (A 4 + 1) else mPaysTo lw (hA0 A) k) → FrM o mi m2 → MW X fX7_hour (rmOf 6 0 0) 0 0 66 [some (rf X o), some (.int a), some (.int b), some (.int (nI k))] [] S m2 (mQ X 0 0 (fun r S' m => r = none ∧ S' = S ∧ m (o + 1) = mHourF lw c A ∧ FrM o mi m)) := by
      intro k hk m2 h2 hF2
      subst hk
      have e1 : m2 (o + 1) 1 = nI k := by rw [h2]; exact v1 k
      refine mw_iload_n dX7_hour_66 rfl ?_
      refine mw_aload_n dX7_hour_67 rfl ?_
      refine mw_getr dX7_hour_68 fl_X7_9 rfl (by assumption) (by assumption) ?_
      refine mw_iconst (v := 1) dX7_hour_71 (by decide) ?_
      refine mw_ialdK (k := 1) dX7_hour_72 (by assumption) (rfl) (by decide) (by decide) ?_
      rw [e1]
      refine mw_icmp_ge (tgt := 91) dX7_hour_73 (by decide) (fun h73 => ?_) (fun h73 => ?_)
      · skip
        exact MW.sub (by simp [lsub]) (s91 m2 b hF2 e1 hb (by rw [h2, mHourF, mPay]))
      · skip
        exact absurd (Int32.le_refl _) h73
    have lstep : ∀ k, k < c → (∀ j, j = k + 1 → ∀ m2, m2 (o + 1) = (if dr1 A < A 6 then upd (hA0 A) 4 (A 4 + 1) else mPaysTo lw (hA0 A) j) → FrM o mi m2 → MW X fX7_hour (rmOf 6 0 0) 0 0 66 [some (rf X o), some (.int a), some (.int b), some (.int (nI j))] [] S m2 (mQ X 0 0 (fun r S' m => r = none ∧ S' = S ∧ m (o + 1) = mHourF lw c A ∧ FrM o mi m))) → ∀ m2, m2 (o + 1) = (if dr1 A < A 6 then upd (hA0 A) 4 (A 4 + 1) else mPaysTo lw (hA0 A) k) → FrM o mi m2 → MW X fX7_hour (rmOf 6 0 0) 0 0 66 [some (rf X o), some (.int a), some (.int b), some (.int (nI k))] [] S m2 (mQ X 0 0 (fun r S' m => r = none ∧ S' = S ∧ m (o + 1) = mHourF lw c A ∧ FrM o mi m)) := by
      intro k hk ih m2 h2 hF2
      have ih := ih (k + 1) rfl
      have e1 : m2 (o + 1) 1 = nI c := by rw [h2]; exact v1 k
      have tl : tail66 A (m2 (o + 1)) := by
        rw [h2]; split
        · exact ((tail66.rf A).up (by decide)).up (by decide)
        · intro j hj; rw [mPaysTo_hi k (by omega) j hj]; exact ((tail66.rf A).up (by decide)) j hj
      have e5 : m2 (o + 1) 5 = nI n := by
        rw [h2]; split
        · simp [upd, hA0, hn]
        · rw [mPaysTo_lo (by decide) (by decide)]; simp [upd, hA0, hn]
      have el : lwM (m2 (o + 1)) 0 n = lw := (lwM_congr tl).trans hlw
      refine mw_iload_n dX7_hour_66 rfl ?_
      refine mw_aload_n dX7_hour_67 rfl ?_
      refine mw_getr dX7_hour_68 fl_X7_9 rfl (by assumption) (by assumption) ?_
      refine mw_iconst (v := 1) dX7_hour_71 (by decide) ?_
      refine mw_ialdK (k := 1) dX7_hour_72 (by assumption) (rfl) (by decide) (by decide) ?_
      rw [e1]
      refine mw_icmp_ge (tgt := 91) dX7_hour_73 (by decide) (fun h73 => ?_) (fun h73 => ?_)
      · skip
        first
          | exact absurd h73 (nI_ge hk (by omega))
          | (have hp : dr1 A < A 6 := Classical.not_not.mp fun q => h77 (ha.mpr q)
             exact MW.sub (by simp [lsub]) (s91 m2 b hF2 e1 hb (by rw [h2, if_pos hp, mHourF, mPay, if_pos hp])))
      · skip
        refine mw_iload_n dX7_hour_76 rfl ?_
        refine mw_if_ne (tgt := 91) dX7_hour_77 (by decide) (fun h77 => ?_) (fun h77 => ?_)
        · skip
          first
            | exact absurd h73 (nI_ge hk (by omega))
            | (have hp : dr1 A < A 6 := Classical.not_not.mp fun q => h77 (ha.mpr q)
               exact MW.sub (by simp [lsub]) (s91 m2 b hF2 e1 hb (by rw [h2, if_pos hp, mHourF, mPay, if_pos hp])))
        · skip
          refine mw_aload_n dX7_hour_80 rfl ?_
          refine mw_iload_n dX7_hour_81 rfl ?_
          refine mw_callV (g := fX7_pays) dX7_hour_82 ml_X7_156 mfX7_pays (ok_X7_pays hM (by omega) e5 hn14 (ht.congr tl)) (by assumption) rfl rfl (Nat.le_of_ble_eq_true rfl) ⟨by decide, by decide⟩ ⟨by decide, by decide⟩ (fun r S2 mi2 hp => ?_)
          obtain ⟨rfl, e1, hm3, hf3⟩ := hp
          rw [e1]
          rw [el, h2, if_neg (ha.mp h77)] at hm3
          refine mw_iincK (k := k) dX7_hour_85 rfl rfl (by decide) ?_
          refine mw_goto (tgt := 66) dX7_hour_88 (by decide) ?_
          refine MW.sub (by simp [lsub]) (ih _ ?_ (hF2.tr hf3))
          rw [hm3, if_neg (ha.mp h77)]; rfl
    exact mw_dn (P := fun k => ∀ m2, m2 (o + 1) = (if dr1 A < A 6 then upd (hA0 A) 4 (A 4 + 1) else mPaysTo lw (hA0 A) k) → FrM o mi m2 → MW X fX7_hour (rmOf 6 0 0) 0 0 66 [some (rf X o), some (.int a), some (.int b), some (.int (nI k))] [] S m2 (mQ X 0 0 (fun r S' m => r = none ∧ S' = S ∧ m (o + 1) = mHourF lw c A ∧ FrM o mi m))) c (lend c rfl) (fun k hk ih => lstep k hk (fun j hj => by subst hj; exact ih)) m (by simp only [mPaysTo]; exact hm) hF
  have hF0 := FrM.rf o mi
  have eR : ∀ v, m_up mi (o + 1) 0 v (o + 1) = upd A 0 v := fun v => by rw [m_up_row, hA]
  have s45 : ∀ (a b : Int32), (a = 0 ↔ ¬ dr1 A < A 6) → (b = 0 ↔ ¬ dr2 A < A 7) → MW X fX7_hour (rmOf 6 0 0) 0 0 45 [some (rf X o), some (.int a), none, none] [.int b] S (m_up mi (o + 1) 0 (nz1 (nz1 (A 0)))) (mQ X 0 0 (fun r S' m => r = none ∧ S' = S ∧ m (o + 1) = mHourF lw c A ∧ FrM o mi m)) := by
    intro a b ha hb
    refine mw_istN 2 dX7_hour_45 rfl (by decide) ?_
    refine mw_aload_n dX7_hour_46 rfl ?_
    refine mw_getr dX7_hour_47 fl_X7_9 rfl (by assumption) (by assumption) ?_
    refine mw_iconst (v := 4) dX7_hour_50 (by decide) ?_
    refine mw_dup2 dX7_hour_51 rfl rfl ?_
    refine mw_ialdK (k := 4) dX7_hour_52 (by assumption) (rfl) (by decide) (by decide) ?_
    refine mw_iload_n dX7_hour_53 rfl ?_
    refine mw_if_eq (tgt := 61) dX7_hour_54 (by decide) (fun h54 => ?_) (fun h54 => ?_)
    · skip
      refine mw_iconst (v := 0) dX7_hour_61 (by decide) ?_
      refine mw_iadd dX7_hour_62 ?_
      refine mw_iastK (k := 4) dX7_hour_63 (by assumption) (rfl) (by decide) (by decide) ?_
      refine mw_iconst (v := 0) dX7_hour_64 (by decide) ?_
      refine mw_istN 3 dX7_hour_65 rfl (by decide) ?_
      refine MW.sub (by simp [lsub, nI_0]) (s66 _ a b hF0.up.up ha hb ?_)
      rw [m_up_row, eR]
      first
        | (rw [if_neg (ha.mp h54), Int32.add_zero, upd_id]; rfl)
        | (rw [if_pos (Classical.not_not.mp fun q => h54 (ha.mpr q))]; rfl)
    · skip
      refine mw_iconst (v := 1) dX7_hour_57 (by decide) ?_
      refine mw_goto (tgt := 62) dX7_hour_58 (by decide) ?_
      refine mw_iadd dX7_hour_62 ?_
      refine mw_iastK (k := 4) dX7_hour_63 (by assumption) (rfl) (by decide) (by decide) ?_
      refine mw_iconst (v := 0) dX7_hour_64 (by decide) ?_
      refine mw_istN 3 dX7_hour_65 rfl (by decide) ?_
      refine MW.sub (by simp [lsub, nI_0]) (s66 _ a b hF0.up.up ha hb ?_)
      rw [m_up_row, eR]
      first
        | (rw [if_neg (ha.mp h54), Int32.add_zero, upd_id]; rfl)
        | (rw [if_pos (Classical.not_not.mp fun q => h54 (ha.mpr q))]; rfl)
  have s22 : ∀ (a : Int32), (a = 0 ↔ ¬ dr1 A < A 6) → MW X fX7_hour (rmOf 6 0 0) 0 0 22 [some (rf X o), none, none, none] [.int a] S (m_up mi (o + 1) 0 (nz1 (A 0))) (mQ X 0 0 (fun r S' m => r = none ∧ S' = S ∧ m (o + 1) = mHourF lw c A ∧ FrM o mi m)) := by
    intro a ha
    refine mw_istN 1 dX7_hour_22 rfl (by decide) ?_
    refine mw_aload_n dX7_hour_23 rfl ?_
    refine mw_cVI (g := fX7_draw) dX7_hour_24 ml_X7_152 mfX7_draw (ok_X7_draw hM) (by assumption) rfl rfl (Nat.le_of_ble_eq_true rfl) ⟨by decide, by decide⟩ ⟨by decide, by decide⟩ ?_
    rw [eR, upd_at, m_up_up]
    refine mw_bipush (v := 100) dX7_hour_27 (by decide) ?_
    refine mw_irem dX7_hour_29 (by decide) ?_
    refine mw_aload_n dX7_hour_30 rfl ?_
    refine mw_getr dX7_hour_31 fl_X7_9 rfl (by assumption) (by assumption) ?_
    refine mw_bipush (v := 7) dX7_hour_34 (by decide) ?_
    refine mw_ialdK (k := 7) dX7_hour_36 (by assumption) (rfl) (by decide) (by decide) ?_
    rw [eR, upd_ne (show (7 : Nat) ≠ 0 by decide)]
    refine mw_icmp_ge (tgt := 44) dX7_hour_37 (by decide) (fun h37 => ?_) (fun h37 => ?_)
    · skip
      refine mw_iconst (v := 0) dX7_hour_44 (by decide) ?_
      first
        | exact MW.sub (by simp [lsub]) (s45 a 0 ha ⟨fun _ => Int32.not_lt.mpr h37, fun _ => rfl⟩)
        | exact MW.sub (by simp [lsub]) (s45 a 1 ha ⟨fun q => absurd q (by decide), fun q => absurd (show dr2 A < A 7 from Int32.not_le.mp h37) q⟩)
    · skip
      refine mw_iconst (v := 1) dX7_hour_40 (by decide) ?_
      refine mw_goto (tgt := 45) dX7_hour_41 (by decide) ?_
      first
        | exact MW.sub (by simp [lsub]) (s45 a 0 ha ⟨fun _ => Int32.not_lt.mpr h37, fun _ => rfl⟩)
        | exact MW.sub (by simp [lsub]) (s45 a 1 ha ⟨fun q => absurd q (by decide), fun q => absurd (show dr2 A < A 7 from Int32.not_le.mp h37) q⟩)
  refine mw_aload_n dX7_hour_0 rfl ?_
  refine mw_cVI (g := fX7_draw) dX7_hour_1 ml_X7_152 mfX7_draw (ok_X7_draw hM) (by assumption) rfl rfl (Nat.le_of_ble_eq_true rfl) ⟨by decide, by decide⟩ ⟨by decide, by decide⟩ ?_
  rw [hA]
  refine mw_bipush (v := 100) dX7_hour_4 (by decide) ?_
  refine mw_irem dX7_hour_6 (by decide) ?_
  refine mw_aload_n dX7_hour_7 rfl ?_
  refine mw_getr dX7_hour_8 fl_X7_9 rfl (by assumption) (by assumption) ?_
  refine mw_bipush (v := 6) dX7_hour_11 (by decide) ?_
  refine mw_ialdK (k := 6) dX7_hour_13 (by assumption) (rfl) (by decide) (by decide) ?_
  rw [eR, upd_ne (show (6 : Nat) ≠ 0 by decide)]
  refine mw_icmp_ge (tgt := 21) dX7_hour_14 (by decide) (fun h14 => ?_) (fun h14 => ?_)
  · skip
    refine mw_iconst (v := 0) dX7_hour_21 (by decide) ?_
    first
      | exact s22 0 ⟨fun _ => Int32.not_lt.mpr h14, fun _ => rfl⟩
      | exact s22 1 ⟨fun q => absurd q (by decide), fun q => absurd (show dr1 A < A 6 from Int32.not_le.mp h14) q⟩
  · skip
    refine mw_iconst (v := 1) dX7_hour_17 (by decide) ?_
    refine mw_goto (tgt := 22) dX7_hour_18 (by decide) ?_
    first
      | exact s22 0 ⟨fun _ => Int32.not_lt.mpr h14, fun _ => rfl⟩
      | exact s22 1 ⟨fun q => absurd q (by decide), fun q => absurd (show dr1 A < A 6 from Int32.not_le.mp h14) q⟩
