section MWR
variable {X : Xb} {fr : Fr} {R : Room} {kc sl pc : Nat} {L : List (Option Value)} {st : List Value} {S : Sg} {mi : Mem} {Q : Qt}
/-- Java's rest -/
def jr (x y : Int32) : Int32 := x - x / y * y
def jus (x y : Int32) : Int32 := (x.toUInt32 >>> (y.toUInt32 &&& Int32.toUInt32 31)).toInt32
abbrev Ct (v : Value) : Prop := v.category = 1
theorem MW.eq {pc' : Nat} {L' : List (Option Value)} {st' : List Value} {S' : Sg} {mi' : Mem} (h1 : pc = pc') (h2 : L = L') (h3 : st = st') (h4 : S = S') (h5 : mi = mi') (k : MW X fr R kc sl pc' L' st' S' mi' Q) : MW X fr R kc sl pc L st S mi Q := by
  subst h1; subst h2; subst h3; subst h4; subst h5; exact k
theorem MW.sub {L' : List (Option Value)} (h : lsub L' L) (k : MW X fr R kc sl pc L' st S mi Q) : MW X fr R kc sl pc L st S mi Q :=
  fun p l e s m args below meth c H locs ls C hS hP hL => k p l e s m args below meth c H locs ls C hS hP (hL.sub h)
theorem MW.widen {k n : Nat} (h1 : kc ≤ k) (h2 : sl ≤ n) (kk : MW X fr R k n pc L st S mi Q) : MW X fr R kc sl pc L st S mi Q :=
  fun p l e s m args below meth c H locs ls C hS hP hL => W.widen h1 h2 (kk p l e s m args below meth c H locs ls C hS hP hL)
theorem mw_iconst {n : Int} {v : Int32} (hd : decode fr.2.1 pc = .ok (.iconst n, 1)) (hv : Int32.ofInt n = v) (k : MW X fr R kc sl (pc + 1) L (.int v :: st) S mi Q) : MW X fr R kc sl pc L (st) S mi Q :=
  fun p l e s m args below meth c H locs ls C hS hP hL => lv_iconst C.1 C.2.1 hd hv (k p l e s m args below meth c H locs ls C hS hP hL)
theorem mw_bipush {n : Int} {v : Int32} (hd : decode fr.2.1 pc = .ok (.bipush n, 2)) (hv : (Int8.ofInt n).toInt32 = v) (k : MW X fr R kc sl (pc + 2) L (.int v :: st) S mi Q) : MW X fr R kc sl pc L (st) S mi Q :=
  fun p l e s m args below meth c H locs ls C hS hP hL => lv_bipush C.1 C.2.1 hd hv (k p l e s m args below meth c H locs ls C hS hP hL)
theorem mw_sipush {n : Int} {v : Int32} (hd : decode fr.2.1 pc = .ok (.sipush n, 3)) (hv : (Int16.ofInt n).toInt32 = v) (k : MW X fr R kc sl (pc + 3) L (.int v :: st) S mi Q) : MW X fr R kc sl pc L (st) S mi Q :=
  fun p l e s m args below meth c H locs ls C hS hP hL => lv_sipush C.1 C.2.1 hd hv (k p l e s m args below meth c H locs ls C hS hP hL)
theorem mw_null  (hd : decode fr.2.1 pc = .ok (.aconst_null, 1))  (k : MW X fr R kc sl (pc + 1) L (.null :: st) S mi Q) : MW X fr R kc sl pc L (st) S mi Q :=
  fun p l e s m args below meth c H locs ls C hS hP hL => lv_null C.1 C.2.1 hd (k p l e s m args below meth c H locs ls C hS hP hL)
theorem mw_ldc {i : Nat} {v : Int32} (hd : decode fr.2.1 pc = .ok (.ldc i, 2)) (hv : Cond.constant fr.1.cls i v ∈ TW) (k : MW X fr R kc sl (pc + 2) L (.int v :: st) S mi Q) : MW X fr R kc sl pc L (st) S mi Q :=
  fun p l e s m args below meth c H locs ls C hS hP hL => lv_ldc C.1 C.2.1 C.2.2.2.1 (C.2.2.2.2.1 _ hv) hd (k p l e s m args below meth c H locs ls C hS hP hL)
theorem mw_ldcw {i : Nat} {v : Int32} (hd : decode fr.2.1 pc = .ok (.ldc_w i, 3)) (hv : Cond.constant fr.1.cls i v ∈ TW) (k : MW X fr R kc sl (pc + 3) L (.int v :: st) S mi Q) : MW X fr R kc sl pc L (st) S mi Q :=
  fun p l e s m args below meth c H locs ls C hS hP hL => lv_ldcw C.1 C.2.1 C.2.2.2.1 (C.2.2.2.2.1 _ hv) hd (k p l e s m args below meth c H locs ls C hS hP hL)
theorem mw_iload_n {k : Fin 4} {x : Int32} (hd : decode fr.2.1 pc = .ok (.iload_n k, 1)) (hl : L[(k : Nat)]? = some (some (.int x))) (k : MW X fr R kc sl (pc + 1) L (.int x :: st) S mi Q) : MW X fr R kc sl pc L (st) S mi Q :=
  fun p l e s m args below meth c H locs ls C hS hP hL => lv_iload_n C.1 C.2.1 hd rfl (hL.at hl) (k p l e s m args below meth c H locs ls C hS hP hL)
theorem mw_iload {i : Nat} {x : Int32} (hd : decode fr.2.1 pc = .ok (.iload i, 2)) (hl : L[i]? = some (some (.int x))) (k : MW X fr R kc sl (pc + 2) L (.int x :: st) S mi Q) : MW X fr R kc sl pc L (st) S mi Q :=
  fun p l e s m args below meth c H locs ls C hS hP hL => lv_iload C.1 C.2.1 hd (hL.at hl) (k p l e s m args below meth c H locs ls C hS hP hL)
theorem mw_aload_n {k : Fin 4} {x : Nat} (hd : decode fr.2.1 pc = .ok (.aload_n k, 1)) (hl : L[(k : Nat)]? = some (some (.ref x))) (k : MW X fr R kc sl (pc + 1) L (.ref x :: st) S mi Q) : MW X fr R kc sl pc L (st) S mi Q :=
  fun p l e s m args below meth c H locs ls C hS hP hL => lv_aload_n C.1 C.2.1 hd rfl (hL.at hl) (k p l e s m args below meth c H locs ls C hS hP hL)
theorem mw_aload {i : Nat} {x : Nat} (hd : decode fr.2.1 pc = .ok (.aload i, 2)) (hl : L[i]? = some (some (.ref x))) (k : MW X fr R kc sl (pc + 2) L (.ref x :: st) S mi Q) : MW X fr R kc sl pc L (st) S mi Q :=
  fun p l e s m args below meth c H locs ls C hS hP hL => lv_aload C.1 C.2.1 hd (hL.at hl) (k p l e s m args below meth c H locs ls C hS hP hL)
theorem mw_aload_nN {k : Fin 4} (hd : decode fr.2.1 pc = .ok (.aload_n k, 1)) (hl : L[(k : Nat)]? = some (some .null)) (k : MW X fr R kc sl (pc + 1) L (.null :: st) S mi Q) : MW X fr R kc sl pc L (st) S mi Q :=
  fun p l e s m args below meth c H locs ls C hS hP hL => lv_aload_nN C.1 C.2.1 hd rfl (hL.at hl) (k p l e s m args below meth c H locs ls C hS hP hL)
theorem mw_istore_n {k : Fin 4} {x : Int32} (hd : decode fr.2.1 pc = .ok (.istore_n k, 1)) (hi : (k : Nat) < fr.2.2.1) (k : MW X fr R kc sl (pc + 1) (L.set (k : Nat) (some (.int x))) st S mi Q) : MW X fr R kc sl pc L (.int x :: st) S mi Q :=
  fun p l e s m args below meth c H locs ls C hS hP hL => lv_istore_n C.1 C.2.1 hd rfl hL.2.1 hi rfl (fun ls' h => k p l e s m args below meth c H locs ls' C hS hP (Lv.store hL.1 hL.2.2 hi rfl h))
theorem mw_istore {i : Nat} {x : Int32} (hd : decode fr.2.1 pc = .ok (.istore i, 2)) (hi : i < fr.2.2.1) (k : MW X fr R kc sl (pc + 2) (L.set i (some (.int x))) st S mi Q) : MW X fr R kc sl pc L (.int x :: st) S mi Q :=
  fun p l e s m args below meth c H locs ls C hS hP hL => lv_istore C.1 C.2.1 hd hL.2.1 hi rfl (fun ls' h => k p l e s m args below meth c H locs ls' C hS hP (Lv.store hL.1 hL.2.2 hi rfl h))
theorem mw_astore_n {k : Fin 4} {x : Nat} (hd : decode fr.2.1 pc = .ok (.astore_n k, 1)) (hi : (k : Nat) < fr.2.2.1) (k : MW X fr R kc sl (pc + 1) (L.set (k : Nat) (some (.ref x))) st S mi Q) : MW X fr R kc sl pc L (.ref x :: st) S mi Q :=
  fun p l e s m args below meth c H locs ls C hS hP hL => lv_astore_n C.1 C.2.1 hd rfl hL.2.1 hi rfl (fun ls' h => k p l e s m args below meth c H locs ls' C hS hP (Lv.store hL.1 hL.2.2 hi rfl h))
theorem mw_astore {i : Nat} {x : Nat} (hd : decode fr.2.1 pc = .ok (.astore i, 2)) (hi : i < fr.2.2.1) (k : MW X fr R kc sl (pc + 2) (L.set i (some (.ref x))) st S mi Q) : MW X fr R kc sl pc L (.ref x :: st) S mi Q :=
  fun p l e s m args below meth c H locs ls C hS hP hL => lv_astore C.1 C.2.1 hd hL.2.1 hi rfl (fun ls' h => k p l e s m args below meth c H locs ls' C hS hP (Lv.store hL.1 hL.2.2 hi rfl h))
theorem mw_astore_nN {k : Fin 4} (hd : decode fr.2.1 pc = .ok (.astore_n k, 1)) (hi : (k : Nat) < fr.2.2.1) (k : MW X fr R kc sl (pc + 1) (L.set (k : Nat) (some (.null))) st S mi Q) : MW X fr R kc sl pc L (.null :: st) S mi Q :=
  fun p l e s m args below meth c H locs ls C hS hP hL => lv_astore_nN C.1 C.2.1 hd rfl hL.2.1 hi rfl (fun ls' h => k p l e s m args below meth c H locs ls' C hS hP (Lv.store hL.1 hL.2.2 hi rfl h))
theorem mw_iinc {i : Nat} {n : Int} {x v : Int32} (hd : decode fr.2.1 pc = .ok (.iinc i n, 3)) (hl : L[i]? = some (some (.int x))) (hi : i < fr.2.2.1) (hv : x + Int32.ofInt n = v) (k : MW X fr R kc sl (pc + 3) (L.set i (some (.int v))) st S mi Q) : MW X fr R kc sl pc L st S mi Q := by
  intro p l e s m args below meth c H locs ls C hS hP hL
  obtain ⟨j, hj⟩ := List.getElem?_of_mem (prs_mem.mpr hl)
  exact lv_iinc C.1 C.2.1 hd hL.2.1 hj hv hi rfl (fun ls' h => k p l e s m args below meth c H locs ls' C hS hP (Lv.store hL.1 hL.2.2 hi rfl h))
theorem mw_iadd {x y : Int32} (hd : decode fr.2.1 pc = .ok (.iadd, 1))  (k : MW X fr R kc sl (pc + 1) L (.int (x + y) :: st) S mi Q) : MW X fr R kc sl pc L (.int y :: .int x :: st) S mi Q :=
  fun p l e s m args below meth c H locs ls C hS hP hL => lv_iadd C.1 C.2.1 hd (k p l e s m args below meth c H locs ls C hS hP hL)
theorem mw_isub {x y : Int32} (hd : decode fr.2.1 pc = .ok (.isub, 1))  (k : MW X fr R kc sl (pc + 1) L (.int (x - y) :: st) S mi Q) : MW X fr R kc sl pc L (.int y :: .int x :: st) S mi Q :=
  fun p l e s m args below meth c H locs ls C hS hP hL => lv_isub C.1 C.2.1 hd (k p l e s m args below meth c H locs ls C hS hP hL)
theorem mw_imul {x y : Int32} (hd : decode fr.2.1 pc = .ok (.imul, 1))  (k : MW X fr R kc sl (pc + 1) L (.int (x * y) :: st) S mi Q) : MW X fr R kc sl pc L (.int y :: .int x :: st) S mi Q :=
  fun p l e s m args below meth c H locs ls C hS hP hL => lv_imul C.1 C.2.1 hd (k p l e s m args below meth c H locs ls C hS hP hL)
theorem mw_iand {x y : Int32} (hd : decode fr.2.1 pc = .ok (.iand, 1))  (k : MW X fr R kc sl (pc + 1) L (.int (x &&& y) :: st) S mi Q) : MW X fr R kc sl pc L (.int y :: .int x :: st) S mi Q :=
  fun p l e s m args below meth c H locs ls C hS hP hL => lv_iand C.1 C.2.1 hd (k p l e s m args below meth c H locs ls C hS hP hL)
theorem mw_ior {x y : Int32} (hd : decode fr.2.1 pc = .ok (.ior, 1))  (k : MW X fr R kc sl (pc + 1) L (.int (x ||| y) :: st) S mi Q) : MW X fr R kc sl pc L (.int y :: .int x :: st) S mi Q :=
  fun p l e s m args below meth c H locs ls C hS hP hL => lv_ior C.1 C.2.1 hd (k p l e s m args below meth c H locs ls C hS hP hL)
theorem mw_ixor {x y : Int32} (hd : decode fr.2.1 pc = .ok (.ixor, 1))  (k : MW X fr R kc sl (pc + 1) L (.int (x ^^^ y) :: st) S mi Q) : MW X fr R kc sl pc L (.int y :: .int x :: st) S mi Q :=
  fun p l e s m args below meth c H locs ls C hS hP hL => lv_ixor C.1 C.2.1 hd (k p l e s m args below meth c H locs ls C hS hP hL)
theorem mw_ishl {x y : Int32} (hd : decode fr.2.1 pc = .ok (.ishl, 1))  (k : MW X fr R kc sl (pc + 1) L (.int (x <<< (y &&& 31)) :: st) S mi Q) : MW X fr R kc sl pc L (.int y :: .int x :: st) S mi Q :=
  fun p l e s m args below meth c H locs ls C hS hP hL => lv_ishl C.1 C.2.1 hd (k p l e s m args below meth c H locs ls C hS hP hL)
theorem mw_ishr {x y : Int32} (hd : decode fr.2.1 pc = .ok (.ishr, 1))  (k : MW X fr R kc sl (pc + 1) L (.int (x >>> (y &&& 31)) :: st) S mi Q) : MW X fr R kc sl pc L (.int y :: .int x :: st) S mi Q :=
  fun p l e s m args below meth c H locs ls C hS hP hL => lv_ishr C.1 C.2.1 hd (k p l e s m args below meth c H locs ls C hS hP hL)
theorem mw_iushr {x y : Int32} (hd : decode fr.2.1 pc = .ok (.iushr, 1))  (k : MW X fr R kc sl (pc + 1) L (.int (jus x y) :: st) S mi Q) : MW X fr R kc sl pc L (.int y :: .int x :: st) S mi Q :=
  fun p l e s m args below meth c H locs ls C hS hP hL => lv_iushr C.1 C.2.1 hd rfl (k p l e s m args below meth c H locs ls C hS hP hL)
theorem mw_idiv {x y : Int32} (hd : decode fr.2.1 pc = .ok (.idiv, 1)) (hy : ¬ y = 0) (k : MW X fr R kc sl (pc + 1) L (.int (x / y) :: st) S mi Q) : MW X fr R kc sl pc L (.int y :: .int x :: st) S mi Q :=
  fun p l e s m args below meth c H locs ls C hS hP hL => lv_idiv C.1 C.2.1 hd hy (k p l e s m args below meth c H locs ls C hS hP hL)
theorem mw_irem {x y : Int32} (hd : decode fr.2.1 pc = .ok (.irem, 1)) (hy : ¬ y = 0) (k : MW X fr R kc sl (pc + 1) L (.int (jr x y) :: st) S mi Q) : MW X fr R kc sl pc L (.int y :: .int x :: st) S mi Q :=
  fun p l e s m args below meth c H locs ls C hS hP hL => lv_irem C.1 C.2.1 hd hy (k p l e s m args below meth c H locs ls C hS hP hL)
theorem mw_ineg {x : Int32} (hd : decode fr.2.1 pc = .ok (.ineg, 1))  (k : MW X fr R kc sl (pc + 1) L (.int (-x) :: st) S mi Q) : MW X fr R kc sl pc L (.int x :: st) S mi Q :=
  fun p l e s m args below meth c H locs ls C hS hP hL => lv_ineg C.1 C.2.1 hd (k p l e s m args below meth c H locs ls C hS hP hL)
theorem mw_i2s {x : Int32} (hd : decode fr.2.1 pc = .ok (.i2s, 1))  (k : MW X fr R kc sl (pc + 1) L (.int x.toInt16.toInt32 :: st) S mi Q) : MW X fr R kc sl pc L (.int x :: st) S mi Q :=
  fun p l e s m args below meth c H locs ls C hS hP hL => lv_i2s C.1 C.2.1 hd rfl (k p l e s m args below meth c H locs ls C hS hP hL)
theorem mw_i2c {x : Int32} (hd : decode fr.2.1 pc = .ok (.i2c, 1))  (k : MW X fr R kc sl (pc + 1) L (.int (x.toUInt32 % 65536).toInt32 :: st) S mi Q) : MW X fr R kc sl pc L (.int x :: st) S mi Q :=
  fun p l e s m args below meth c H locs ls C hS hP hL => lv_i2c C.1 C.2.1 hd rfl (k p l e s m args below meth c H locs ls C hS hP hL)
theorem mw_dup {v : Value} (hd : decode fr.2.1 pc = .ok (.dup, 1)) (hv : v.category = 1) (k : MW X fr R kc sl (pc + 1) L (v :: v :: st) S mi Q) : MW X fr R kc sl pc L (v :: st) S mi Q :=
  fun p l e s m args below meth c H locs ls C hS hP hL => lv_dup C.1 C.2.1 hd hv (k p l e s m args below meth c H locs ls C hS hP hL)
theorem mw_pop {v : Value} (hd : decode fr.2.1 pc = .ok (.pop, 1)) (hv : v.category = 1) (k : MW X fr R kc sl (pc + 1) L (st) S mi Q) : MW X fr R kc sl pc L (v :: st) S mi Q :=
  fun p l e s m args below meth c H locs ls C hS hP hL => lv_pop C.1 C.2.1 hd hv (k p l e s m args below meth c H locs ls C hS hP hL)
theorem mw_dup2 {v w : Value} (hd : decode fr.2.1 pc = .ok (.dup2, 1)) (hv : v.category = 1) (hw : w.category = 1) (k : MW X fr R kc sl (pc + 1) L (v :: w :: v :: w :: st) S mi Q) : MW X fr R kc sl pc L (v :: w :: st) S mi Q :=
  fun p l e s m args below meth c H locs ls C hS hP hL => lv_dup2_11 C.1 C.2.1 hd hv hw (k p l e s m args below meth c H locs ls C hS hP hL)
theorem mw_if_eq {x : Int32} {off : Int} {tgt : Nat} (hd : decode fr.2.1 pc = .ok (.ifCond .eq off, 3)) (ht : (pc : Int) + off = (tgt : Int)) (kt : x = 0 → MW X fr R kc sl tgt L st S mi Q) (kf : ¬ x = 0 → MW X fr R kc sl (pc + 3) L st S mi Q) : MW X fr R kc sl pc L (.int x :: st) S mi Q :=
  fun p l e s m args below meth c H locs ls C hS hP hL => lv_if_eq C.1 C.2.1 hd ht (fun q => kt q p l e s m args below meth c H locs ls C hS hP hL) (fun q => kf q p l e s m args below meth c H locs ls C hS hP hL)
theorem mw_icmp_eq {x y : Int32} {off : Int} {tgt : Nat} (hd : decode fr.2.1 pc = .ok (.if_icmp .eq off, 3)) (ht : (pc : Int) + off = (tgt : Int)) (kt : x = y → MW X fr R kc sl tgt L st S mi Q) (kf : ¬ x = y → MW X fr R kc sl (pc + 3) L st S mi Q) : MW X fr R kc sl pc L (.int y :: .int x :: st) S mi Q :=
  fun p l e s m args below meth c H locs ls C hS hP hL => lv_icmp_eq C.1 C.2.1 hd ht (fun q => kt q p l e s m args below meth c H locs ls C hS hP hL) (fun q => kf q p l e s m args below meth c H locs ls C hS hP hL)
theorem mw_if_ne {x : Int32} {off : Int} {tgt : Nat} (hd : decode fr.2.1 pc = .ok (.ifCond .ne off, 3)) (ht : (pc : Int) + off = (tgt : Int)) (kt : ¬ x = 0 → MW X fr R kc sl tgt L st S mi Q) (kf : x = 0 → MW X fr R kc sl (pc + 3) L st S mi Q) : MW X fr R kc sl pc L (.int x :: st) S mi Q :=
  fun p l e s m args below meth c H locs ls C hS hP hL => lv_if_ne C.1 C.2.1 hd ht (fun q => kt q p l e s m args below meth c H locs ls C hS hP hL) (fun q => kf q p l e s m args below meth c H locs ls C hS hP hL)
theorem mw_icmp_ne {x y : Int32} {off : Int} {tgt : Nat} (hd : decode fr.2.1 pc = .ok (.if_icmp .ne off, 3)) (ht : (pc : Int) + off = (tgt : Int)) (kt : ¬ x = y → MW X fr R kc sl tgt L st S mi Q) (kf : x = y → MW X fr R kc sl (pc + 3) L st S mi Q) : MW X fr R kc sl pc L (.int y :: .int x :: st) S mi Q :=
  fun p l e s m args below meth c H locs ls C hS hP hL => lv_icmp_ne C.1 C.2.1 hd ht (fun q => kt q p l e s m args below meth c H locs ls C hS hP hL) (fun q => kf q p l e s m args below meth c H locs ls C hS hP hL)
theorem mw_if_lt {x : Int32} {off : Int} {tgt : Nat} (hd : decode fr.2.1 pc = .ok (.ifCond .lt off, 3)) (ht : (pc : Int) + off = (tgt : Int)) (kt : x < 0 → MW X fr R kc sl tgt L st S mi Q) (kf : ¬ x < 0 → MW X fr R kc sl (pc + 3) L st S mi Q) : MW X fr R kc sl pc L (.int x :: st) S mi Q :=
  fun p l e s m args below meth c H locs ls C hS hP hL => lv_if_lt C.1 C.2.1 hd ht (fun q => kt q p l e s m args below meth c H locs ls C hS hP hL) (fun q => kf q p l e s m args below meth c H locs ls C hS hP hL)
theorem mw_icmp_lt {x y : Int32} {off : Int} {tgt : Nat} (hd : decode fr.2.1 pc = .ok (.if_icmp .lt off, 3)) (ht : (pc : Int) + off = (tgt : Int)) (kt : x < y → MW X fr R kc sl tgt L st S mi Q) (kf : ¬ x < y → MW X fr R kc sl (pc + 3) L st S mi Q) : MW X fr R kc sl pc L (.int y :: .int x :: st) S mi Q :=
  fun p l e s m args below meth c H locs ls C hS hP hL => lv_icmp_lt C.1 C.2.1 hd ht (fun q => kt q p l e s m args below meth c H locs ls C hS hP hL) (fun q => kf q p l e s m args below meth c H locs ls C hS hP hL)
theorem mw_if_ge {x : Int32} {off : Int} {tgt : Nat} (hd : decode fr.2.1 pc = .ok (.ifCond .ge off, 3)) (ht : (pc : Int) + off = (tgt : Int)) (kt : 0 ≤ x → MW X fr R kc sl tgt L st S mi Q) (kf : ¬ 0 ≤ x → MW X fr R kc sl (pc + 3) L st S mi Q) : MW X fr R kc sl pc L (.int x :: st) S mi Q :=
  fun p l e s m args below meth c H locs ls C hS hP hL => lv_if_ge C.1 C.2.1 hd ht (fun q => kt q p l e s m args below meth c H locs ls C hS hP hL) (fun q => kf q p l e s m args below meth c H locs ls C hS hP hL)
theorem mw_icmp_ge {x y : Int32} {off : Int} {tgt : Nat} (hd : decode fr.2.1 pc = .ok (.if_icmp .ge off, 3)) (ht : (pc : Int) + off = (tgt : Int)) (kt : y ≤ x → MW X fr R kc sl tgt L st S mi Q) (kf : ¬ y ≤ x → MW X fr R kc sl (pc + 3) L st S mi Q) : MW X fr R kc sl pc L (.int y :: .int x :: st) S mi Q :=
  fun p l e s m args below meth c H locs ls C hS hP hL => lv_icmp_ge C.1 C.2.1 hd ht (fun q => kt q p l e s m args below meth c H locs ls C hS hP hL) (fun q => kf q p l e s m args below meth c H locs ls C hS hP hL)
theorem mw_if_gt {x : Int32} {off : Int} {tgt : Nat} (hd : decode fr.2.1 pc = .ok (.ifCond .gt off, 3)) (ht : (pc : Int) + off = (tgt : Int)) (kt : 0 < x → MW X fr R kc sl tgt L st S mi Q) (kf : ¬ 0 < x → MW X fr R kc sl (pc + 3) L st S mi Q) : MW X fr R kc sl pc L (.int x :: st) S mi Q :=
  fun p l e s m args below meth c H locs ls C hS hP hL => lv_if_gt C.1 C.2.1 hd ht (fun q => kt q p l e s m args below meth c H locs ls C hS hP hL) (fun q => kf q p l e s m args below meth c H locs ls C hS hP hL)
theorem mw_icmp_gt {x y : Int32} {off : Int} {tgt : Nat} (hd : decode fr.2.1 pc = .ok (.if_icmp .gt off, 3)) (ht : (pc : Int) + off = (tgt : Int)) (kt : y < x → MW X fr R kc sl tgt L st S mi Q) (kf : ¬ y < x → MW X fr R kc sl (pc + 3) L st S mi Q) : MW X fr R kc sl pc L (.int y :: .int x :: st) S mi Q :=
  fun p l e s m args below meth c H locs ls C hS hP hL => lv_icmp_gt C.1 C.2.1 hd ht (fun q => kt q p l e s m args below meth c H locs ls C hS hP hL) (fun q => kf q p l e s m args below meth c H locs ls C hS hP hL)
theorem mw_if_le {x : Int32} {off : Int} {tgt : Nat} (hd : decode fr.2.1 pc = .ok (.ifCond .le off, 3)) (ht : (pc : Int) + off = (tgt : Int)) (kt : x ≤ 0 → MW X fr R kc sl tgt L st S mi Q) (kf : ¬ x ≤ 0 → MW X fr R kc sl (pc + 3) L st S mi Q) : MW X fr R kc sl pc L (.int x :: st) S mi Q :=
  fun p l e s m args below meth c H locs ls C hS hP hL => lv_if_le C.1 C.2.1 hd ht (fun q => kt q p l e s m args below meth c H locs ls C hS hP hL) (fun q => kf q p l e s m args below meth c H locs ls C hS hP hL)
theorem mw_icmp_le {x y : Int32} {off : Int} {tgt : Nat} (hd : decode fr.2.1 pc = .ok (.if_icmp .le off, 3)) (ht : (pc : Int) + off = (tgt : Int)) (kt : x ≤ y → MW X fr R kc sl tgt L st S mi Q) (kf : ¬ x ≤ y → MW X fr R kc sl (pc + 3) L st S mi Q) : MW X fr R kc sl pc L (.int y :: .int x :: st) S mi Q :=
  fun p l e s m args below meth c H locs ls C hS hP hL => lv_icmp_le C.1 C.2.1 hd ht (fun q => kt q p l e s m args below meth c H locs ls C hS hP hL) (fun q => kf q p l e s m args below meth c H locs ls C hS hP hL)
theorem mw_goto {off : Int} {tgt : Nat} (hd : decode fr.2.1 pc = .ok (.goto off, 3)) (ht : (pc : Int) + off = (tgt : Int)) (k : MW X fr R kc sl tgt L st S mi Q) : MW X fr R kc sl pc L st S mi Q :=
  fun p l e s m args below meth c H locs ls C hS hP hL => lv_goto C.1 C.2.1 hd ht (k p l e s m args below meth c H locs ls C hS hP hL)
theorem mw_ifnonnull {x : Nat} {off : Int} {tgt : Nat} (hd : decode fr.2.1 pc = .ok (.ifnonnull off, 3)) (ht : (pc : Int) + off = (tgt : Int)) (k : MW X fr R kc sl tgt L st S mi Q) : MW X fr R kc sl pc L (.ref x :: st) S mi Q :=
  fun p l e s m args below meth c H locs ls C hS hP hL => lv_ifnonnull C.1 C.2.1 hd ht (k p l e s m args below meth c H locs ls C hS hP hL)
theorem mw_ifnonnullN {off : Int} (hd : decode fr.2.1 pc = .ok (.ifnonnull off, 3)) (k : MW X fr R kc sl (pc + 3) L st S mi Q) : MW X fr R kc sl pc L (.null :: st) S mi Q :=
  fun p l e s m args below meth c H locs ls C hS hP hL => lv_ifnonnullN C.1 C.2.1 hd (k p l e s m args below meth c H locs ls C hS hP hL)
/-- a switch by its table: the place that a number goes to -/
def tsTo (pc : Nat) (d lo hi : Int) (offs : Array Int) (x : Int32) : Int := if x.toInt < lo ∨ hi < x.toInt then pc + d else pc + (offs[(x.toInt - lo).toNat]?).getD 0
theorem mw_tsw {d lo hi : Int} {offs : Array Int} {len : Nat} {x : Int32} (hd : decode fr.2.1 pc = .ok (.tableswitch d lo hi offs, len)) (hsz : offs.size = (hi - lo + 1).toNat) (tgt : Nat) (ht : tsTo pc d lo hi offs x = (tgt : Int)) (k : MW X fr R kc sl tgt L st S mi Q) : MW X fr R kc sl pc L (.int x :: st) S mi Q := by
  intro p l e s m args below meth c H locs ls C hS hP hL
  unfold tsTo at ht
  by_cases h : x.toInt < lo ∨ hi < x.toInt
  · rw [if_pos h] at ht
    exact lv_tableOut C.1 C.2.1 hd h ht (k p l e s m args below meth c H locs ls C hS hP hL)
  · rw [if_neg h] at ht
    have h1 : ¬ x.toInt < lo := fun q => h (Or.inl q)
    have h2 : ¬ hi < x.toInt := fun q => h (Or.inr q)
    have hlt : (x.toInt - lo).toNat < offs.size := by rw [hsz]; omega
    rw [Array.getElem?_eq_getElem hlt, Option.getD_some] at ht
    exact lv_tableIn C.1 C.2.1 hd h1 h2 (Array.getElem?_eq_getElem hlt) ht (k p l e s m args below meth c H locs ls C hS hP hL)
theorem mw_lsw {d : Int} {ps : Array (Int × Int)} {len : Nat} {x : Int32} (hd : decode fr.2.1 pc = .ok (.lookupswitch d ps, len)) (hp : (ps.toList.zip (ps.toList.drop 1)).all (fun (a, next) => a.1 < next.1) = true) (tgt : Nat) (ht : (pc : Int) + Op.lookupswitch.offset ps.toList d x.toInt = (tgt : Int)) (k : MW X fr R kc sl tgt L st S mi Q) : MW X fr R kc sl pc L (.int x :: st) S mi Q :=
  fun p l e s m args below meth c H locs ls C hS hP hL => lv_lookup C.1 C.2.1 hd hp rfl ht (k p l e s m args below meth c H locs ls C hS hP hL)
theorem mw_iret {mc ms : Nat} {P : Pt3} {v : Int32} (hd : decode fr.2.1 pc = .ok (.ireturn, 1)) (hr : fr.2.2.2 = some .int) (h1 : kc ≤ mc) (h2 : sl ≤ ms) (hp : P (some (.int v)) S mi) : MW X fr R kc sl pc L [.int v] S mi (mQ X mc ms P) :=
  fun p l e s m args below meth c H locs ls C hS hP hL => W.widen h1 h2 (W.iret (v := v) C.1 C.2.1 (C.2.2.2.2.2.1.trans hr) (fun t ht hW => ⟨⟨_, S, mi, rfl, hp, by rw [ht]; exact hP⟩, hS.F ht⟩) hS.2.2 hd C.2.2.2.2.2.2.1)
theorem mw_zret {mc ms : Nat} {P : Pt3} {v : Int32} {ty : FieldType} (hd : decode fr.2.1 pc = .ok (.ireturn, 1)) (hr : fr.2.2.2 = some ty) (hn : narrow ty (.int v) = .int v) (h1 : kc ≤ mc) (h2 : sl ≤ ms) (hp : P (some (.int v)) S mi) : MW X fr R kc sl pc L [.int v] S mi (mQ X mc ms P) :=
  fun p l e s m args below meth c H locs ls C hS hP hL => W.widen h1 h2 (W.zret (v := v) C.1 C.2.1 (C.2.2.2.2.2.1.trans hr) hn (fun t ht hW => ⟨⟨_, S, mi, rfl, hp, by rw [ht]; exact hP⟩, hS.F ht⟩) hS.2.2 hd C.2.2.2.2.2.2.1)
theorem mw_vret {mc ms : Nat} {P : Pt3} (hd : decode fr.2.1 pc = .ok (.return_, 1)) (hr : fr.2.2.2 = none) (h1 : kc ≤ mc) (h2 : sl ≤ ms) (hp : P none S mi) : MW X fr R kc sl pc L [] S mi (mQ X mc ms P) :=
  fun p l e s m args below meth c H locs ls C hS hP hL => W.widen h1 h2 (W.vret C.1 C.2.1 (C.2.2.2.2.2.1.trans hr) (fun t ht hW => ⟨⟨_, S, mi, rfl, hp, by rw [ht]; exact hP⟩, hS.F ht⟩) hS.2.2 hd C.2.2.2.2.2.2.1)
theorem mw_aret {mc ms : Nat} {P : Pt3} {v : Value} {rt : FieldType} (hd : decode fr.2.1 pc = .ok (.areturn, 1)) (hr : fr.2.2.2 = some rt) (hrt : (∃ n, rt = .object n) ∨ ∃ t, rt = .array t) (hv : v = .null ∨ ∃ a, v = .ref a) (h1 : kc ≤ mc) (h2 : sl ≤ ms) (hp : P (some v) S mi) : MW X fr R kc sl pc L [v] S mi (mQ X mc ms P) :=
  fun p l e s m args below meth c H locs ls C hS hP hL => W.widen h1 h2 (W.aret (v := v) C.1 C.2.1 (C.2.2.2.2.2.1.trans hr) hrt hv (fun t ht hW => ⟨⟨_, S, mi, rfl, hp, by rw [ht]; exact hP⟩, hS.F ht⟩) hS.2.2 hd C.2.2.2.2.2.2.1)
end MWR
