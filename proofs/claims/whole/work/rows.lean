section
-- ===== PART A: goes FIRST, ahead of the names: the tables' words, and 'selects' of the private methods out of them =====
/-- a private method of a class that the tables say can be made, by its rows of tables_1 -/
def lw_okq (q : MethodName × Nat) : Prop := (q.1.cls ≠ "java/lang/invoke/MethodHandle" ∧ q.1.cls ≠ "java/lang/invoke/VarHandle") ∧ Cond.instantiable q.1.cls q.2 ∈ tables_1 ∧ Cond.privateMethod q.1 ∈ tables_1 ∧ Cond.instanceMethod q.1 ∈ tables_1
theorem lw_p0 : lw_okq (⟨"AtticStars", "isAttic", "(I)Z"⟩, 10) := ⟨⟨by decide +kernel, by decide +kernel⟩, List.mem_of_getElem? (i := 18) (by decide +kernel), List.mem_of_getElem? (i := 281) (by decide +kernel), List.mem_of_getElem? (i := 282) (by decide +kernel)⟩
theorem lw_p1 : lw_okq (⟨"AtticStars$Town", "hidingFrom", "(LAtticStars$Attic;)I"⟩, 18) := ⟨⟨by decide +kernel, by decide +kernel⟩, List.mem_of_getElem? (i := 26) (by decide +kernel), List.mem_of_getElem? (i := 297) (by decide +kernel), List.mem_of_getElem? (i := 298) (by decide +kernel)⟩
theorem lw_p2 : lw_okq (⟨"AtticStars$Town", "plainRentOf", "(LAtticStars$Attic;I)I"⟩, 18) := ⟨⟨by decide +kernel, by decide +kernel⟩, List.mem_of_getElem? (i := 26) (by decide +kernel), List.mem_of_getElem? (i := 311) (by decide +kernel), List.mem_of_getElem? (i := 312) (by decide +kernel)⟩
theorem lw_p3 : lw_okq (⟨"AtticStars$Town", "textFor", "(I)LAtticStars$Text;"⟩, 18) := ⟨⟨by decide +kernel, by decide +kernel⟩, List.mem_of_getElem? (i := 26) (by decide +kernel), List.mem_of_getElem? (i := 315) (by decide +kernel), List.mem_of_getElem? (i := 316) (by decide +kernel)⟩
theorem lw_p4 : lw_okq (⟨"AtticStars$Town", "draw", "()I"⟩, 18) := ⟨⟨by decide +kernel, by decide +kernel⟩, List.mem_of_getElem? (i := 26) (by decide +kernel), List.mem_of_getElem? (i := 397) (by decide +kernel), List.mem_of_getElem? (i := 398) (by decide +kernel)⟩
theorem lw_p5 : lw_okq (⟨"AtticStars$Town", "viewOf", "(I)I"⟩, 18) := ⟨⟨by decide +kernel, by decide +kernel⟩, List.mem_of_getElem? (i := 26) (by decide +kernel), List.mem_of_getElem? (i := 455) (by decide +kernel), List.mem_of_getElem? (i := 456) (by decide +kernel)⟩
theorem lw_p6 : lw_okq (⟨"AtticStars", "bestOf", "(IIII)I"⟩, 10) := ⟨⟨by decide +kernel, by decide +kernel⟩, List.mem_of_getElem? (i := 18) (by decide +kernel), List.mem_of_getElem? (i := 487) (by decide +kernel), List.mem_of_getElem? (i := 488) (by decide +kernel)⟩
theorem lw_p7 : lw_okq (⟨"AtticStars", "measureDifferences", "(LAtticStars$Sheet;)V"⟩, 10) := ⟨⟨by decide +kernel, by decide +kernel⟩, List.mem_of_getElem? (i := 18) (by decide +kernel), List.mem_of_getElem? (i := 511) (by decide +kernel), List.mem_of_getElem? (i := 512) (by decide +kernel)⟩
theorem lw_p8 : lw_okq (⟨"AtticStars$Tape", "advance", "()V"⟩, 11) := ⟨⟨by decide +kernel, by decide +kernel⟩, List.mem_of_getElem? (i := 138) (by decide +kernel), List.mem_of_getElem? (i := 566) (by decide +kernel), List.mem_of_getElem? (i := 567) (by decide +kernel)⟩
theorem lw_p9 : lw_okq (⟨"AtticStars$Tape", "sortAt", "(I)I"⟩, 11) := ⟨⟨by decide +kernel, by decide +kernel⟩, List.mem_of_getElem? (i := 138) (by decide +kernel), List.mem_of_getElem? (i := 570) (by decide +kernel), List.mem_of_getElem? (i := 571) (by decide +kernel)⟩
theorem lw_p10 : lw_okq (⟨"AtticStars$Tape", "keyHere", "()I"⟩, 11) := ⟨⟨by decide +kernel, by decide +kernel⟩, List.mem_of_getElem? (i := 138) (by decide +kernel), List.mem_of_getElem? (i := 574) (by decide +kernel), List.mem_of_getElem? (i := 575) (by decide +kernel)⟩
theorem lw_p11 : lw_okq (⟨"AtticStars$Tape", "isHere", "(Ljava/lang/String;)Z"⟩, 11) := ⟨⟨by decide +kernel, by decide +kernel⟩, List.mem_of_getElem? (i := 138) (by decide +kernel), List.mem_of_getElem? (i := 579) (by decide +kernel), List.mem_of_getElem? (i := 580) (by decide +kernel)⟩
theorem lw_p12 : lw_okq (⟨"AtticStars$Tape", "readJoined", "(I)Z"⟩, 11) := ⟨⟨by decide +kernel, by decide +kernel⟩, List.mem_of_getElem? (i := 138) (by decide +kernel), List.mem_of_getElem? (i := 633) (by decide +kernel), List.mem_of_getElem? (i := 634) (by decide +kernel)⟩
theorem lw_p13 : lw_okq (⟨"AtticStars$Tape", "readPiece", "()Z"⟩, 11) := ⟨⟨by decide +kernel, by decide +kernel⟩, List.mem_of_getElem? (i := 138) (by decide +kernel), List.mem_of_getElem? (i := 637) (by decide +kernel), List.mem_of_getElem? (i := 638) (by decide +kernel)⟩
theorem lw_p14 : lw_okq (⟨"AtticStars$Tape", "numberHere", "()I"⟩, 11) := ⟨⟨by decide +kernel, by decide +kernel⟩, List.mem_of_getElem? (i := 138) (by decide +kernel), List.mem_of_getElem? (i := 641) (by decide +kernel), List.mem_of_getElem? (i := 642) (by decide +kernel)⟩
theorem lw_p15 : lw_okq (⟨"AtticStars$Tape", "readLeaf", "(I)Z"⟩, 11) := ⟨⟨by decide +kernel, by decide +kernel⟩, List.mem_of_getElem? (i := 138) (by decide +kernel), List.mem_of_getElem? (i := 645) (by decide +kernel), List.mem_of_getElem? (i := 646) (by decide +kernel)⟩
def lw_privs_1 : List (MethodName × Nat) := [(⟨"AtticStars", "isAttic", "(I)Z"⟩, 10), (⟨"AtticStars$Town", "hidingFrom", "(LAtticStars$Attic;)I"⟩, 18), (⟨"AtticStars$Town", "plainRentOf", "(LAtticStars$Attic;I)I"⟩, 18), (⟨"AtticStars$Town", "textFor", "(I)LAtticStars$Text;"⟩, 18), (⟨"AtticStars$Town", "draw", "()I"⟩, 18), (⟨"AtticStars$Town", "viewOf", "(I)I"⟩, 18), (⟨"AtticStars", "bestOf", "(IIII)I"⟩, 10), (⟨"AtticStars", "measureDifferences", "(LAtticStars$Sheet;)V"⟩, 10), (⟨"AtticStars$Tape", "advance", "()V"⟩, 11), (⟨"AtticStars$Tape", "sortAt", "(I)I"⟩, 11), (⟨"AtticStars$Tape", "keyHere", "()I"⟩, 11), (⟨"AtticStars$Tape", "isHere", "(Ljava/lang/String;)Z"⟩, 11), (⟨"AtticStars$Tape", "readJoined", "(I)Z"⟩, 11), (⟨"AtticStars$Tape", "readPiece", "()Z"⟩, 11), (⟨"AtticStars$Tape", "numberHere", "()I"⟩, 11), (⟨"AtticStars$Tape", "readLeaf", "(I)Z"⟩, 11)]
theorem lw_r1 : ∀ q ∈ lw_privs_1, lw_okq q := List.forall_mem_cons.mpr ⟨lw_p0, List.forall_mem_cons.mpr ⟨lw_p1, List.forall_mem_cons.mpr ⟨lw_p2, List.forall_mem_cons.mpr ⟨lw_p3, List.forall_mem_cons.mpr ⟨lw_p4, List.forall_mem_cons.mpr ⟨lw_p5, List.forall_mem_cons.mpr ⟨lw_p6, List.forall_mem_cons.mpr ⟨lw_p7, List.forall_mem_cons.mpr ⟨lw_p8, List.forall_mem_cons.mpr ⟨lw_p9, List.forall_mem_cons.mpr ⟨lw_p10, List.forall_mem_cons.mpr ⟨lw_p11, List.forall_mem_cons.mpr ⟨lw_p12, List.forall_mem_cons.mpr ⟨lw_p13, List.forall_mem_cons.mpr ⟨lw_p14, List.forall_mem_cons.mpr ⟨lw_p15, fun _ h => absurd h List.not_mem_nil⟩⟩⟩⟩⟩⟩⟩⟩⟩⟩⟩⟩⟩⟩⟩⟩
theorem lw_p16 : lw_okq (⟨"AtticStars$Tape", "addStep", "(I)V"⟩, 11) := ⟨⟨by decide +kernel, by decide +kernel⟩, List.mem_of_getElem? (i := 138) (by decide +kernel), List.mem_of_getElem? (i := 649) (by decide +kernel), List.mem_of_getElem? (i := 650) (by decide +kernel)⟩
theorem lw_p17 : lw_okq (⟨"AtticStars$Tape", "nameHere", "()I"⟩, 11) := ⟨⟨by decide +kernel, by decide +kernel⟩, List.mem_of_getElem? (i := 138) (by decide +kernel), List.mem_of_getElem? (i := 653) (by decide +kernel), List.mem_of_getElem? (i := 654) (by decide +kernel)⟩
theorem lw_p18 : lw_okq (⟨"AtticStars$Tape", "signHere", "()I"⟩, 11) := ⟨⟨by decide +kernel, by decide +kernel⟩, List.mem_of_getElem? (i := 138) (by decide +kernel), List.mem_of_getElem? (i := 715) (by decide +kernel), List.mem_of_getElem? (i := 716) (by decide +kernel)⟩
theorem lw_p19 : lw_okq (⟨"AtticStars$Tape", "readNot", "()Z"⟩, 11) := ⟨⟨by decide +kernel, by decide +kernel⟩, List.mem_of_getElem? (i := 138) (by decide +kernel), List.mem_of_getElem? (i := 719) (by decide +kernel), List.mem_of_getElem? (i := 720) (by decide +kernel)⟩
theorem lw_p20 : lw_okq (⟨"AtticStars$Tape", "readOpen", "()Z"⟩, 11) := ⟨⟨by decide +kernel, by decide +kernel⟩, List.mem_of_getElem? (i := 138) (by decide +kernel), List.mem_of_getElem? (i := 723) (by decide +kernel), List.mem_of_getElem? (i := 724) (by decide +kernel)⟩
theorem lw_p21 : lw_okq (⟨"AtticStarsModel", "comes", "(III)I"⟩, 34) := ⟨⟨by decide +kernel, by decide +kernel⟩, List.mem_of_getElem? (i := 844) (by decide +kernel), List.mem_of_getElem? (i := 967) (by decide +kernel), List.mem_of_getElem? (i := 968) (by decide +kernel)⟩
theorem lw_p22 : lw_okq (⟨"AtticStarsModel", "put", "(III)V"⟩, 34) := ⟨⟨by decide +kernel, by decide +kernel⟩, List.mem_of_getElem? (i := 844) (by decide +kernel), List.mem_of_getElem? (i := 971) (by decide +kernel), List.mem_of_getElem? (i := 972) (by decide +kernel)⟩
theorem lw_p23 : lw_okq (⟨"AtticStarsModel", "isAttic", "(I)Z"⟩, 34) := ⟨⟨by decide +kernel, by decide +kernel⟩, List.mem_of_getElem? (i := 844) (by decide +kernel), List.mem_of_getElem? (i := 979) (by decide +kernel), List.mem_of_getElem? (i := 980) (by decide +kernel)⟩
theorem lw_p24 : lw_okq (⟨"AtticStarsModel", "of", "(II)I"⟩, 34) := ⟨⟨by decide +kernel, by decide +kernel⟩, List.mem_of_getElem? (i := 844) (by decide +kernel), List.mem_of_getElem? (i := 983) (by decide +kernel), List.mem_of_getElem? (i := 984) (by decide +kernel)⟩
theorem lw_p25 : lw_okq (⟨"AtticStarsModel", "wideOf", "(I)I"⟩, 34) := ⟨⟨by decide +kernel, by decide +kernel⟩, List.mem_of_getElem? (i := 844) (by decide +kernel), List.mem_of_getElem? (i := 987) (by decide +kernel), List.mem_of_getElem? (i := 988) (by decide +kernel)⟩
theorem lw_p26 : lw_okq (⟨"AtticStarsModel", "wideBy", "(II)I"⟩, 34) := ⟨⟨by decide +kernel, by decide +kernel⟩, List.mem_of_getElem? (i := 844) (by decide +kernel), List.mem_of_getElem? (i := 991) (by decide +kernel), List.mem_of_getElem? (i := 992) (by decide +kernel)⟩
theorem lw_p27 : lw_okq (⟨"AtticStarsModel", "sees", "(I)I"⟩, 34) := ⟨⟨by decide +kernel, by decide +kernel⟩, List.mem_of_getElem? (i := 844) (by decide +kernel), List.mem_of_getElem? (i := 998) (by decide +kernel), List.mem_of_getElem? (i := 999) (by decide +kernel)⟩
theorem lw_p28 : lw_okq (⟨"AtticStarsModel", "standsAt", "(I)I"⟩, 34) := ⟨⟨by decide +kernel, by decide +kernel⟩, List.mem_of_getElem? (i := 844) (by decide +kernel), List.mem_of_getElem? (i := 1002) (by decide +kernel), List.mem_of_getElem? (i := 1003) (by decide +kernel)⟩
theorem lw_p29 : lw_okq (⟨"AtticStarsModel", "isHidden", "(II)Z"⟩, 34) := ⟨⟨by decide +kernel, by decide +kernel⟩, List.mem_of_getElem? (i := 844) (by decide +kernel), List.mem_of_getElem? (i := 1006) (by decide +kernel), List.mem_of_getElem? (i := 1007) (by decide +kernel)⟩
theorem lw_p30 : lw_okq (⟨"AtticStarsModel", "rentOf", "(I)I"⟩, 34) := ⟨⟨by decide +kernel, by decide +kernel⟩, List.mem_of_getElem? (i := 844) (by decide +kernel), List.mem_of_getElem? (i := 1010) (by decide +kernel), List.mem_of_getElem? (i := 1011) (by decide +kernel)⟩
theorem lw_p31 : lw_okq (⟨"AtticStarsModel", "counts", "(I)I"⟩, 34) := ⟨⟨by decide +kernel, by decide +kernel⟩, List.mem_of_getElem? (i := 844) (by decide +kernel), List.mem_of_getElem? (i := 1014) (by decide +kernel), List.mem_of_getElem? (i := 1015) (by decide +kernel)⟩
def lw_privs_2 : List (MethodName × Nat) := [(⟨"AtticStars$Tape", "addStep", "(I)V"⟩, 11), (⟨"AtticStars$Tape", "nameHere", "()I"⟩, 11), (⟨"AtticStars$Tape", "signHere", "()I"⟩, 11), (⟨"AtticStars$Tape", "readNot", "()Z"⟩, 11), (⟨"AtticStars$Tape", "readOpen", "()Z"⟩, 11), (⟨"AtticStarsModel", "comes", "(III)I"⟩, 34), (⟨"AtticStarsModel", "put", "(III)V"⟩, 34), (⟨"AtticStarsModel", "isAttic", "(I)Z"⟩, 34), (⟨"AtticStarsModel", "of", "(II)I"⟩, 34), (⟨"AtticStarsModel", "wideOf", "(I)I"⟩, 34), (⟨"AtticStarsModel", "wideBy", "(II)I"⟩, 34), (⟨"AtticStarsModel", "sees", "(I)I"⟩, 34), (⟨"AtticStarsModel", "standsAt", "(I)I"⟩, 34), (⟨"AtticStarsModel", "isHidden", "(II)Z"⟩, 34), (⟨"AtticStarsModel", "rentOf", "(I)I"⟩, 34), (⟨"AtticStarsModel", "counts", "(I)I"⟩, 34)]
theorem lw_r2 : ∀ q ∈ lw_privs_2, lw_okq q := List.forall_mem_cons.mpr ⟨lw_p16, List.forall_mem_cons.mpr ⟨lw_p17, List.forall_mem_cons.mpr ⟨lw_p18, List.forall_mem_cons.mpr ⟨lw_p19, List.forall_mem_cons.mpr ⟨lw_p20, List.forall_mem_cons.mpr ⟨lw_p21, List.forall_mem_cons.mpr ⟨lw_p22, List.forall_mem_cons.mpr ⟨lw_p23, List.forall_mem_cons.mpr ⟨lw_p24, List.forall_mem_cons.mpr ⟨lw_p25, List.forall_mem_cons.mpr ⟨lw_p26, List.forall_mem_cons.mpr ⟨lw_p27, List.forall_mem_cons.mpr ⟨lw_p28, List.forall_mem_cons.mpr ⟨lw_p29, List.forall_mem_cons.mpr ⟨lw_p30, List.forall_mem_cons.mpr ⟨lw_p31, fun _ h => absurd h List.not_mem_nil⟩⟩⟩⟩⟩⟩⟩⟩⟩⟩⟩⟩⟩⟩⟩⟩
theorem lw_p32 : lw_okq (⟨"AtticStarsModel", "pricesOf", "(I)I"⟩, 34) := ⟨⟨by decide +kernel, by decide +kernel⟩, List.mem_of_getElem? (i := 844) (by decide +kernel), List.mem_of_getElem? (i := 1018) (by decide +kernel), List.mem_of_getElem? (i := 1019) (by decide +kernel)⟩
theorem lw_p33 : lw_okq (⟨"AtticStarsModel", "worksOut", "(I)I"⟩, 34) := ⟨⟨by decide +kernel, by decide +kernel⟩, List.mem_of_getElem? (i := 844) (by decide +kernel), List.mem_of_getElem? (i := 1025) (by decide +kernel), List.mem_of_getElem? (i := 1026) (by decide +kernel)⟩
theorem lw_p34 : lw_okq (⟨"AtticStarsModel", "swaps", "(II)I"⟩, 34) := ⟨⟨by decide +kernel, by decide +kernel⟩, List.mem_of_getElem? (i := 844) (by decide +kernel), List.mem_of_getElem? (i := 1044) (by decide +kernel), List.mem_of_getElem? (i := 1045) (by decide +kernel)⟩
theorem lw_p35 : lw_okq (⟨"AtticStarsModel", "seers", "(I)I"⟩, 34) := ⟨⟨by decide +kernel, by decide +kernel⟩, List.mem_of_getElem? (i := 844) (by decide +kernel), List.mem_of_getElem? (i := 1063) (by decide +kernel), List.mem_of_getElem? (i := 1064) (by decide +kernel)⟩
theorem lw_p36 : lw_okq (⟨"AtticStarsModel", "draw", "()I"⟩, 34) := ⟨⟨by decide +kernel, by decide +kernel⟩, List.mem_of_getElem? (i := 844) (by decide +kernel), List.mem_of_getElem? (i := 1083) (by decide +kernel), List.mem_of_getElem? (i := 1084) (by decide +kernel)⟩
theorem lw_p37 : lw_okq (⟨"AtticStarsModel", "goesOn", "(I)V"⟩, 34) := ⟨⟨by decide +kernel, by decide +kernel⟩, List.mem_of_getElem? (i := 844) (by decide +kernel), List.mem_of_getElem? (i := 1096) (by decide +kernel), List.mem_of_getElem? (i := 1097) (by decide +kernel)⟩
theorem lw_p38 : lw_okq (⟨"AtticStarsModel", "hour", "()V"⟩, 34) := ⟨⟨by decide +kernel, by decide +kernel⟩, List.mem_of_getElem? (i := 844) (by decide +kernel), List.mem_of_getElem? (i := 1100) (by decide +kernel), List.mem_of_getElem? (i := 1101) (by decide +kernel)⟩
theorem lw_p39 : lw_okq (⟨"AtticStarsModel", "pays", "(I)V"⟩, 34) := ⟨⟨by decide +kernel, by decide +kernel⟩, List.mem_of_getElem? (i := 844) (by decide +kernel), List.mem_of_getElem? (i := 1104) (by decide +kernel), List.mem_of_getElem? (i := 1105) (by decide +kernel)⟩
theorem lw_p40 : lw_okq (⟨"AtticStarsModel", "sumOf", "(I)I"⟩, 34) := ⟨⟨by decide +kernel, by decide +kernel⟩, List.mem_of_getElem? (i := 844) (by decide +kernel), List.mem_of_getElem? (i := 1112) (by decide +kernel), List.mem_of_getElem? (i := 1113) (by decide +kernel)⟩
theorem lw_p41 : lw_okq (⟨"AtticStarsModel", "dark", "()I"⟩, 34) := ⟨⟨by decide +kernel, by decide +kernel⟩, List.mem_of_getElem? (i := 844) (by decide +kernel), List.mem_of_getElem? (i := 1116) (by decide +kernel), List.mem_of_getElem? (i := 1117) (by decide +kernel)⟩
theorem lw_p42 : lw_okq (⟨"AtticStarsModel", "thinks", "()V"⟩, 34) := ⟨⟨by decide +kernel, by decide +kernel⟩, List.mem_of_getElem? (i := 844) (by decide +kernel), List.mem_of_getElem? (i := 1129) (by decide +kernel), List.mem_of_getElem? (i := 1130) (by decide +kernel)⟩
theorem lw_p43 : lw_okq (⟨"AtticStarsModel", "putsBack", "()V"⟩, 34) := ⟨⟨by decide +kernel, by decide +kernel⟩, List.mem_of_getElem? (i := 844) (by decide +kernel), List.mem_of_getElem? (i := 1136) (by decide +kernel), List.mem_of_getElem? (i := 1137) (by decide +kernel)⟩
theorem lw_p44 : lw_okq (⟨"AtticStarsModel", "mostBy", "(IIII)I"⟩, 34) := ⟨⟨by decide +kernel, by decide +kernel⟩, List.mem_of_getElem? (i := 844) (by decide +kernel), List.mem_of_getElem? (i := 1152) (by decide +kernel), List.mem_of_getElem? (i := 1153) (by decide +kernel)⟩
theorem lw_p45 : lw_okq (⟨"AtticStarsModel", "go", "()V"⟩, 34) := ⟨⟨by decide +kernel, by decide +kernel⟩, List.mem_of_getElem? (i := 844) (by decide +kernel), List.mem_of_getElem? (i := 1195) (by decide +kernel), List.mem_of_getElem? (i := 1196) (by decide +kernel)⟩
theorem lw_p46 : lw_okq (⟨"AtticStarsModel", "isLetter", "(I)Z"⟩, 34) := ⟨⟨by decide +kernel, by decide +kernel⟩, List.mem_of_getElem? (i := 844) (by decide +kernel), List.mem_of_getElem? (i := 1199) (by decide +kernel), List.mem_of_getElem? (i := 1200) (by decide +kernel)⟩
theorem lw_p47 : lw_okq (⟨"AtticStarsModel", "isFigure", "(I)Z"⟩, 34) := ⟨⟨by decide +kernel, by decide +kernel⟩, List.mem_of_getElem? (i := 844) (by decide +kernel), List.mem_of_getElem? (i := 1203) (by decide +kernel), List.mem_of_getElem? (i := 1204) (by decide +kernel)⟩
def lw_privs_3 : List (MethodName × Nat) := [(⟨"AtticStarsModel", "pricesOf", "(I)I"⟩, 34), (⟨"AtticStarsModel", "worksOut", "(I)I"⟩, 34), (⟨"AtticStarsModel", "swaps", "(II)I"⟩, 34), (⟨"AtticStarsModel", "seers", "(I)I"⟩, 34), (⟨"AtticStarsModel", "draw", "()I"⟩, 34), (⟨"AtticStarsModel", "goesOn", "(I)V"⟩, 34), (⟨"AtticStarsModel", "hour", "()V"⟩, 34), (⟨"AtticStarsModel", "pays", "(I)V"⟩, 34), (⟨"AtticStarsModel", "sumOf", "(I)I"⟩, 34), (⟨"AtticStarsModel", "dark", "()I"⟩, 34), (⟨"AtticStarsModel", "thinks", "()V"⟩, 34), (⟨"AtticStarsModel", "putsBack", "()V"⟩, 34), (⟨"AtticStarsModel", "mostBy", "(IIII)I"⟩, 34), (⟨"AtticStarsModel", "go", "()V"⟩, 34), (⟨"AtticStarsModel", "isLetter", "(I)Z"⟩, 34), (⟨"AtticStarsModel", "isFigure", "(I)Z"⟩, 34)]
theorem lw_r3 : ∀ q ∈ lw_privs_3, lw_okq q := List.forall_mem_cons.mpr ⟨lw_p32, List.forall_mem_cons.mpr ⟨lw_p33, List.forall_mem_cons.mpr ⟨lw_p34, List.forall_mem_cons.mpr ⟨lw_p35, List.forall_mem_cons.mpr ⟨lw_p36, List.forall_mem_cons.mpr ⟨lw_p37, List.forall_mem_cons.mpr ⟨lw_p38, List.forall_mem_cons.mpr ⟨lw_p39, List.forall_mem_cons.mpr ⟨lw_p40, List.forall_mem_cons.mpr ⟨lw_p41, List.forall_mem_cons.mpr ⟨lw_p42, List.forall_mem_cons.mpr ⟨lw_p43, List.forall_mem_cons.mpr ⟨lw_p44, List.forall_mem_cons.mpr ⟨lw_p45, List.forall_mem_cons.mpr ⟨lw_p46, List.forall_mem_cons.mpr ⟨lw_p47, fun _ h => absurd h List.not_mem_nil⟩⟩⟩⟩⟩⟩⟩⟩⟩⟩⟩⟩⟩⟩⟩⟩
theorem lw_p48 : lw_okq (⟨"AtticStarsModel", "takesKey", "()Z"⟩, 34) := ⟨⟨by decide +kernel, by decide +kernel⟩, List.mem_of_getElem? (i := 844) (by decide +kernel), List.mem_of_getElem? (i := 1207) (by decide +kernel), List.mem_of_getElem? (i := 1208) (by decide +kernel)⟩
theorem lw_p49 : lw_okq (⟨"AtticStarsModel", "takesE", "()Z"⟩, 34) := ⟨⟨by decide +kernel, by decide +kernel⟩, List.mem_of_getElem? (i := 844) (by decide +kernel), List.mem_of_getElem? (i := 1211) (by decide +kernel), List.mem_of_getElem? (i := 1212) (by decide +kernel)⟩
theorem lw_p50 : lw_okq (⟨"AtticStarsModel", "takesPart", "()Z"⟩, 34) := ⟨⟨by decide +kernel, by decide +kernel⟩, List.mem_of_getElem? (i := 844) (by decide +kernel), List.mem_of_getElem? (i := 1215) (by decide +kernel), List.mem_of_getElem? (i := 1216) (by decide +kernel)⟩
theorem lw_p51 : lw_okq (⟨"AtticStarsModel", "nameOf", "(I)I"⟩, 34) := ⟨⟨by decide +kernel, by decide +kernel⟩, List.mem_of_getElem? (i := 844) (by decide +kernel), List.mem_of_getElem? (i := 1219) (by decide +kernel), List.mem_of_getElem? (i := 1220) (by decide +kernel)⟩
theorem lw_p52 : lw_okq (⟨"AtticStarsModel", "settle", "(I)V"⟩, 34) := ⟨⟨by decide +kernel, by decide +kernel⟩, List.mem_of_getElem? (i := 844) (by decide +kernel), List.mem_of_getElem? (i := 1223) (by decide +kernel), List.mem_of_getElem? (i := 1224) (by decide +kernel)⟩
theorem lw_p53 : lw_okq (⟨"AtticStarsModel", "notsOpen", "()I"⟩, 34) := ⟨⟨by decide +kernel, by decide +kernel⟩, List.mem_of_getElem? (i := 844) (by decide +kernel), List.mem_of_getElem? (i := 1230) (by decide +kernel), List.mem_of_getElem? (i := 1231) (by decide +kernel)⟩
theorem lw_p54 : lw_okq (⟨"AtticStarsModel", "signHere", "()I"⟩, 34) := ⟨⟨by decide +kernel, by decide +kernel⟩, List.mem_of_getElem? (i := 844) (by decide +kernel), List.mem_of_getElem? (i := 1234) (by decide +kernel), List.mem_of_getElem? (i := 1235) (by decide +kernel)⟩
theorem lw_p55 : lw_okq (⟨"AtticStarsModel", "worthOf", "(I)I"⟩, 34) := ⟨⟨by decide +kernel, by decide +kernel⟩, List.mem_of_getElem? (i := 844) (by decide +kernel), List.mem_of_getElem? (i := 1277) (by decide +kernel), List.mem_of_getElem? (i := 1278) (by decide +kernel)⟩
def lw_privs_4 : List (MethodName × Nat) := [(⟨"AtticStarsModel", "takesKey", "()Z"⟩, 34), (⟨"AtticStarsModel", "takesE", "()Z"⟩, 34), (⟨"AtticStarsModel", "takesPart", "()Z"⟩, 34), (⟨"AtticStarsModel", "nameOf", "(I)I"⟩, 34), (⟨"AtticStarsModel", "settle", "(I)V"⟩, 34), (⟨"AtticStarsModel", "notsOpen", "()I"⟩, 34), (⟨"AtticStarsModel", "signHere", "()I"⟩, 34), (⟨"AtticStarsModel", "worthOf", "(I)I"⟩, 34)]
theorem lw_r4 : ∀ q ∈ lw_privs_4, lw_okq q := List.forall_mem_cons.mpr ⟨lw_p48, List.forall_mem_cons.mpr ⟨lw_p49, List.forall_mem_cons.mpr ⟨lw_p50, List.forall_mem_cons.mpr ⟨lw_p51, List.forall_mem_cons.mpr ⟨lw_p52, List.forall_mem_cons.mpr ⟨lw_p53, List.forall_mem_cons.mpr ⟨lw_p54, List.forall_mem_cons.mpr ⟨lw_p55, fun _ h => absurd h List.not_mem_nil⟩⟩⟩⟩⟩⟩⟩⟩
def lw_privs : List (MethodName × Nat) := lw_privs_1 ++ (lw_privs_2 ++ (lw_privs_3 ++ (lw_privs_4)))
def lw_tbl : List Cond := k2_sels lw_privs ++ tables_1
theorem lw_privs_ok : ∀ q ∈ lw_privs, lw_okq q := by
  show ∀ q ∈ lw_privs_1 ++ (lw_privs_2 ++ (lw_privs_3 ++ (lw_privs_4))), lw_okq q
  exact List.forall_mem_append.mpr ⟨lw_r1, List.forall_mem_append.mpr ⟨lw_r2, List.forall_mem_append.mpr ⟨lw_r3, lw_r4⟩⟩⟩
end
section
def RX0 : String := "AtticStars$Attic"
def TX0 : u_T := fun k => match k with
  | 0 => ("AtticStars$Attic", "kind", "I", false)
  | 1 => ("AtticStars$Attic", "faces", "I", false)
  | 2 => ("AtticStars$Attic", "width", "I", false)
  | 3 => ("AtticStars$Attic", "coin", "I", false)
  | _ => ("AtticStars$Attic", "owes", "I", false)
def tyX0 : Nat → FieldType := fun k => match k with
  | 0 => .int
  | 1 => .int
  | 2 => .int
  | 3 => .int
  | _ => .int
abbrev wsX00 : List Cond := u_ws RX0 TX0 5
theorem nmX0 : ∀ a, a < 5 → ∀ b, b < 5 → a ≠ b → (TX0 a).2.1 ≠ (TX0 b).2.1 := by decide +kernel
theorem tyX0_ok : ∀ k, k < 5 → parseFieldDescriptor (TX0 k).2.2.1 = some (tyX0 k) := by decide +kernel
abbrev cX0_init : ByteArray := prog_2_method_1_code
def yX0_init : MethodName := ⟨RX0, "<init>", "()V"⟩
abbrev cX0_renew : ByteArray := prog_2_method_2_code
def yX0_renew : MethodName := ⟨RX0, "renew", "(III)V"⟩
abbrev cX0_takeAfter : ByteArray := prog_2_method_3_code
def yX0_takeAfter : MethodName := ⟨RX0, "takeAfter", "(LAtticStars$Attic;)V"⟩
abbrev cX0_isOf : ByteArray := prog_2_method_4_code
def yX0_isOf : MethodName := ⟨RX0, "isOf", "(I)Z"⟩
abbrev cX0_pay : ByteArray := prog_2_method_5_code
def yX0_pay : MethodName := ⟨RX0, "pay", "(I)I"⟩
abbrev cX0_earn : ByteArray := prog_2_method_6_code
def yX0_earn : MethodName := ⟨RX0, "earn", "(I)V"⟩
def RX1 : String := "AtticStars$Sheet"
def TX1 : u_T := fun k => match k with
  | 0 => ("AtticStars$Sheet", "places", "[I", true)
  | 1 => ("AtticStars$Sheet", "sort", "I", false)
  | _ => ("AtticStars$Sheet", "size", "I", false)
def tyX1 : Nat → FieldType := fun k => match k with
  | 0 => .array .int
  | 1 => .int
  | _ => .int
abbrev wsX10 : List Cond := u_ws RX1 TX1 3
theorem nmX1 : ∀ a, a < 3 → ∀ b, b < 3 → a ≠ b → (TX1 a).2.1 ≠ (TX1 b).2.1 := by decide +kernel
theorem tyX1_ok : ∀ k, k < 3 → parseFieldDescriptor (TX1 k).2.2.1 = some (tyX1 k) := by decide +kernel
abbrev cX1_init : ByteArray := prog_3_method_1_code
def yX1_init : MethodName := ⟨RX1, "<init>", "()V"⟩
abbrev cX1_renew : ByteArray := prog_3_method_2_code
def yX1_renew : MethodName := ⟨RX1, "renew", "(II)V"⟩
abbrev cX1_takeAfter : ByteArray := prog_3_method_3_code
def yX1_takeAfter : MethodName := ⟨RX1, "takeAfter", "(LAtticStars$Sheet;)V"⟩
abbrev cX1_hasPlace : ByteArray := prog_3_method_4_code
def yX1_hasPlace : MethodName := ⟨RX1, "hasPlace", "(I)Z"⟩
abbrev cX1_hasNumber : ByteArray := prog_3_method_5_code
def yX1_hasNumber : MethodName := ⟨RX1, "hasNumber", "(I)Z"⟩
abbrev cX1_hasPlaces : ByteArray := prog_3_method_6_code
def yX1_hasPlaces : MethodName := ⟨RX1, "hasPlaces", "(II)Z"⟩
def RX2 : String := "AtticStars$Slot"
def TX2 : u_T := fun k => match k with
  | 0 => ("AtticStars$Slot", "holds", "I", false)
  | 1 => ("AtticStars$Slot", "attic", "LAtticStars$Attic;", true)
  | 2 => ("AtticStars$Slot", "sheet", "LAtticStars$Sheet;", true)
  | _ => ("AtticStars$Slot", "number", "I", false)
def tyX2 : Nat → FieldType := fun k => match k with
  | 0 => .int
  | 1 => .object "AtticStars$Attic"
  | 2 => .object "AtticStars$Sheet"
  | _ => .int
abbrev wsX20 : List Cond := u_ws RX2 TX2 4
theorem nmX2 : ∀ a, a < 4 → ∀ b, b < 4 → a ≠ b → (TX2 a).2.1 ≠ (TX2 b).2.1 := by decide +kernel
theorem tyX2_ok : ∀ k, k < 4 → parseFieldDescriptor (TX2 k).2.2.1 = some (tyX2 k) := by decide +kernel
abbrev cX2_init : ByteArray := prog_4_method_1_code
def yX2_init : MethodName := ⟨RX2, "<init>", "()V"⟩
def RX3 : String := "AtticStars$Tape"
def TX3 : u_T := fun k => match k with
  | 0 => ("AtticStars$Tape", "bytes", "[I", true)
  | 1 => ("AtticStars$Tape", "length", "I", false)
  | 2 => ("AtticStars$Tape", "begin", "I", false)
  | 3 => ("AtticStars$Tape", "end", "I", false)
  | 4 => ("AtticStars$Tape", "sort", "I", false)
  | 5 => ("AtticStars$Tape", "key", "I", false)
  | 6 => ("AtticStars$Tape", "opens", "I", false)
  | 7 => ("AtticStars$Tape", "nots", "I", false)
  | 8 => ("AtticStars$Tape", "leaves", "I", false)
  | 9 => ("AtticStars$Tape", "steps", "[I", true)
  | _ => ("AtticStars$Tape", "stepCount", "I", false)
def tyX3 : Nat → FieldType := fun k => match k with
  | 0 => .array .int
  | 1 => .int
  | 2 => .int
  | 3 => .int
  | 4 => .int
  | 5 => .int
  | 6 => .int
  | 7 => .int
  | 8 => .int
  | 9 => .array .int
  | _ => .int
abbrev wsX30 : List Cond := u_ws RX3 TX3 11
theorem nmX3 : ∀ a, a < 11 → ∀ b, b < 11 → a ≠ b → (TX3 a).2.1 ≠ (TX3 b).2.1 := by decide +kernel
theorem tyX3_ok : ∀ k, k < 11 → parseFieldDescriptor (TX3 k).2.2.1 = some (tyX3 k) := by decide +kernel
abbrev cX3_init : ByteArray := prog_5_method_1_code
def yX3_init : MethodName := ⟨RX3, "<init>", "()V"⟩
abbrev cX3_append : ByteArray := prog_5_method_2_code
def yX3_append : MethodName := ⟨RX3, "append", "(I)V"⟩
abbrev cX3_readText : ByteArray := prog_5_method_3_code
def yX3_readText : MethodName := ⟨RX3, "readText", "()LAtticStars$Text;"⟩
abbrev cX3_advance : ByteArray := prog_5_method_4_code
def yX3_advance : MethodName := ⟨RX3, "advance", "()V"⟩
abbrev cX3_sortAt : ByteArray := prog_5_method_5_code
def yX3_sortAt : MethodName := ⟨RX3, "sortAt", "(I)I"⟩
abbrev cX3_signHere : ByteArray := prog_5_method_6_code
def yX3_signHere : MethodName := ⟨RX3, "signHere", "()I"⟩
abbrev cX3_keyHere : ByteArray := prog_5_method_7_code
def yX3_keyHere : MethodName := ⟨RX3, "keyHere", "()I"⟩
abbrev cX3_isHere : ByteArray := prog_5_method_8_code
def yX3_isHere : MethodName := ⟨RX3, "isHere", "(Ljava/lang/String;)Z"⟩
abbrev cX3_readJoined : ByteArray := prog_5_method_9_code
def yX3_readJoined : MethodName := ⟨RX3, "readJoined", "(I)Z"⟩
abbrev cX3_rankOf : ByteArray := prog_5_method_10_code
def yX3_rankOf : MethodName := ⟨RX3, "rankOf", "(I)I"⟩
abbrev cX3_readPiece : ByteArray := prog_5_method_11_code
def yX3_readPiece : MethodName := ⟨RX3, "readPiece", "()Z"⟩
abbrev cX3_readLeaf : ByteArray := prog_5_method_12_code
def yX3_readLeaf : MethodName := ⟨RX3, "readLeaf", "(I)Z"⟩
abbrev cX3_readNot : ByteArray := prog_5_method_13_code
def yX3_readNot : MethodName := ⟨RX3, "readNot", "()Z"⟩
abbrev cX3_readOpen : ByteArray := prog_5_method_14_code
def yX3_readOpen : MethodName := ⟨RX3, "readOpen", "()Z"⟩
abbrev cX3_numberHere : ByteArray := prog_5_method_15_code
def yX3_numberHere : MethodName := ⟨RX3, "numberHere", "()I"⟩
abbrev cX3_nameHere : ByteArray := prog_5_method_16_code
def yX3_nameHere : MethodName := ⟨RX3, "nameHere", "()I"⟩
abbrev cX3_addStep : ByteArray := prog_5_method_17_code
def yX3_addStep : MethodName := ⟨RX3, "addStep", "(I)V"⟩
def RX4 : String := "AtticStars$Text"
def TX4 : u_T := fun k => match k with
  | 0 => ("AtticStars$Text", "key", "I", true)
  | 1 => ("AtticStars$Text", "leaves", "I", true)
  | _ => ("AtticStars$Text", "steps", "[I", true)
def tyX4 : Nat → FieldType := fun k => match k with
  | 0 => .int
  | 1 => .int
  | _ => .array .int
abbrev wsX40 : List Cond := u_ws RX4 TX4 3
theorem nmX4 : ∀ a, a < 3 → ∀ b, b < 3 → a ≠ b → (TX4 a).2.1 ≠ (TX4 b).2.1 := by decide +kernel
theorem tyX4_ok : ∀ k, k < 3 → parseFieldDescriptor (TX4 k).2.2.1 = some (tyX4 k) := by decide +kernel
abbrev cX4_init : ByteArray := prog_6_method_1_code
def yX4_init : MethodName := ⟨RX4, "<init>", "(II[II)V"⟩
abbrev cX4_gives : ByteArray := prog_6_method_2_code
def yX4_gives : MethodName := ⟨RX4, "gives", "([I[I)I"⟩
abbrev cX4_joined : ByteArray := prog_6_method_3_code
def yX4_joined : MethodName := ⟨RX4, "joined", "(III)I"⟩
def RX5 : String := "AtticStars$Town"
def TX5 : u_T := fun k => match k with
  | 0 => ("AtticStars$Town", "home", "[I", true)
  | 1 => ("AtticStars$Town", "price", "[I", true)
  | 2 => ("AtticStars$Town", "attics", "[LAtticStars$Attic;", true)
  | 3 => ("AtticStars$Town", "atticCount", "I", false)
  | 4 => ("AtticStars$Town", "chimneys", "I", false)
  | 5 => ("AtticStars$Town", "clouds", "I", false)
  | 6 => ("AtticStars$Town", "smoke", "I", false)
  | 7 => ("AtticStars$Town", "wage", "I", false)
  | 8 => ("AtticStars$Town", "taken", "I", false)
  | 9 => ("AtticStars$Town", "prayed", "I", false)
  | 10 => ("AtticStars$Town", "hour", "I", false)
  | 11 => ("AtticStars$Town", "z", "I", false)
  | 12 => ("AtticStars$Town", "texts", "[LAtticStars$Text;", true)
  | 13 => ("AtticStars$Town", "textCount", "I", false)
  | 14 => ("AtticStars$Town", "counting", "[I", true)
  | 15 => ("AtticStars$Town", "names", "[I", true)
  | 16 => ("AtticStars$Town", "pile", "[I", true)
  | _ => ("AtticStars$Town", "views", "[I", true)
def tyX5 : Nat → FieldType := fun k => match k with
  | 0 => .array .int
  | 1 => .array .int
  | 2 => .array (.object "AtticStars$Attic")
  | 3 => .int
  | 4 => .int
  | 5 => .int
  | 6 => .int
  | 7 => .int
  | 8 => .int
  | 9 => .int
  | 10 => .int
  | 11 => .int
  | 12 => .array (.object "AtticStars$Text")
  | 13 => .int
  | 14 => .array .int
  | 15 => .array .int
  | 16 => .array .int
  | _ => .array .int
abbrev wsX50 : List Cond := u_ws RX5 TX5 18
theorem nmX5 : ∀ a, a < 18 → ∀ b, b < 18 → a ≠ b → (TX5 a).2.1 ≠ (TX5 b).2.1 := by decide +kernel
theorem tyX5_ok : ∀ k, k < 18 → parseFieldDescriptor (TX5 k).2.2.1 = some (tyX5 k) := by decide +kernel
abbrev cX5_init : ByteArray := prog_7_method_1_code
def yX5_init : MethodName := ⟨RX5, "<init>", "()V"⟩
abbrev cX5_takeAfter : ByteArray := prog_7_method_2_code
def yX5_takeAfter : MethodName := ⟨RX5, "takeAfter", "(LAtticStars$Town;)V"⟩
abbrev cX5_addAttic : ByteArray := prog_7_method_3_code
def yX5_addAttic : MethodName := ⟨RX5, "addAttic", "(III)I"⟩
abbrev cX5_drawAttic : ByteArray := prog_7_method_4_code
def yX5_drawAttic : MethodName := ⟨RX5, "drawAttic", "()V"⟩
abbrev cX5_addText : ByteArray := prog_7_method_5_code
def yX5_addText : MethodName := ⟨RX5, "addText", "(LAtticStars$Text;)I"⟩
abbrev cX5_draw : ByteArray := prog_7_method_6_code
def yX5_draw : MethodName := ⟨RX5, "draw", "()I"⟩
abbrev cX5_passHour : ByteArray := prog_7_method_7_code
def yX5_passHour : MethodName := ⟨RX5, "passHour", "()V"⟩
abbrev cX5_choose : ByteArray := prog_7_method_8_code
def yX5_choose : MethodName := ⟨RX5, "choose", "(III)Z"⟩
abbrev cX5_bearingOf : ByteArray := prog_7_method_9_code
def yX5_bearingOf : MethodName := ⟨RX5, "bearingOf", "(I)I"⟩
abbrev cX5_wideOf : ByteArray := prog_7_method_10_code
def yX5_wideOf : MethodName := ⟨RX5, "wideOf", "(LAtticStars$Attic;)I"⟩
abbrev cX5_hidingFrom : ByteArray := prog_7_method_11_code
def yX5_hidingFrom : MethodName := ⟨RX5, "hidingFrom", "(LAtticStars$Attic;)I"⟩
abbrev cX5_seenBy : ByteArray := prog_7_method_12_code
def yX5_seenBy : MethodName := ⟨RX5, "seenBy", "(LAtticStars$Attic;)I"⟩
abbrev cX5_watchersOf : ByteArray := prog_7_method_13_code
def yX5_watchersOf : MethodName := ⟨RX5, "watchersOf", "(I)I"⟩
abbrev cX5_dark : ByteArray := prog_7_method_14_code
def yX5_dark : MethodName := ⟨RX5, "dark", "()I"⟩
abbrev cX5_fewestFor : ByteArray := prog_7_method_15_code
def yX5_fewestFor : MethodName := ⟨RX5, "fewestFor", "(I)I"⟩
abbrev cX5_viewOf : ByteArray := prog_7_method_16_code
def yX5_viewOf : MethodName := ⟨RX5, "viewOf", "(I)I"⟩
abbrev cX5_rentOf : ByteArray := prog_7_method_17_code
def yX5_rentOf : MethodName := ⟨RX5, "rentOf", "(LAtticStars$Attic;)I"⟩
abbrev cX5_plainRentOf : ByteArray := prog_7_method_18_code
def yX5_plainRentOf : MethodName := ⟨RX5, "plainRentOf", "(LAtticStars$Attic;I)I"⟩
abbrev cX5_feeGives : ByteArray := prog_7_method_19_code
def yX5_feeGives : MethodName := ⟨RX5, "feeGives", "()I"⟩
abbrev cX5_fineGives : ByteArray := prog_7_method_20_code
def yX5_fineGives : MethodName := ⟨RX5, "fineGives", "(LAtticStars$Attic;)I"⟩
abbrev cX5_textFor : ByteArray := prog_7_method_21_code
def yX5_textFor : MethodName := ⟨RX5, "textFor", "(I)LAtticStars$Text;"⟩
abbrev cX5_owedByAll : ByteArray := prog_7_method_22_code
def yX5_owedByAll : MethodName := ⟨RX5, "owedByAll", "()I"⟩
abbrev cX5_coinOfAll : ByteArray := prog_7_method_23_code
def yX5_coinOfAll : MethodName := ⟨RX5, "coinOfAll", "()I"⟩
abbrev cX5_rentOfAll : ByteArray := prog_7_method_24_code
def yX5_rentOfAll : MethodName := ⟨RX5, "rentOfAll", "()I"⟩
def RX6 : String := "AtticStars"
def TX6 : u_T := fun k => match k with
  | 0 => ("AtticStars", "now", "LAtticStars$Town;", true)
  | 1 => ("AtticStars", "thought", "LAtticStars$Town;", true)
  | 2 => ("AtticStars", "image", "LAtticStars$Town;", true)
  | 3 => ("AtticStars", "imageKept", "Z", false)
  | 4 => ("AtticStars", "tape", "LAtticStars$Tape;", true)
  | 5 => ("AtticStars", "sheets", "[LAtticStars$Sheet;", true)
  | 6 => ("AtticStars", "slots", "[LAtticStars$Slot;", true)
  | 7 => ("AtticStars", "waiting", "[I", true)
  | 8 => ("AtticStars", "waits", "I", false)
  | _ => ("AtticStars", "differences", "[I", true)
def tyX6 : Nat → FieldType := fun k => match k with
  | 0 => .object "AtticStars$Town"
  | 1 => .object "AtticStars$Town"
  | 2 => .object "AtticStars$Town"
  | 3 => .boolean
  | 4 => .object "AtticStars$Tape"
  | 5 => .array (.object "AtticStars$Sheet")
  | 6 => .array (.object "AtticStars$Slot")
  | 7 => .array .int
  | 8 => .int
  | _ => .array .int
abbrev wsX60 : List Cond := u_ws RX6 TX6 10
theorem nmX6 : ∀ a, a < 10 → ∀ b, b < 10 → a ≠ b → (TX6 a).2.1 ≠ (TX6 b).2.1 := by decide +kernel
theorem tyX6_ok : ∀ k, k < 10 → parseFieldDescriptor (TX6 k).2.2.1 = some (tyX6 k) := by decide +kernel
abbrev cX6_init : ByteArray := prog_1_method_1_code
def yX6_init : MethodName := ⟨RX6, "<init>", "()V"⟩
abbrev cX6_attic : ByteArray := prog_1_method_2_code
def yX6_attic : MethodName := ⟨RX6, "attic", "(III)I"⟩
abbrev cX6_told : ByteArray := prog_1_method_3_code
def yX6_told : MethodName := ⟨RX6, "told", "(II)I"⟩
abbrev cX6_as : ByteArray := prog_1_method_4_code
def yX6_as : MethodName := ⟨RX6, "as", "(II)I"⟩
abbrev cX6_turns : ByteArray := prog_1_method_5_code
def yX6_turns : MethodName := ⟨RX6, "turns", "(II)I"⟩
abbrev cX6_set : ByteArray := prog_1_method_6_code
def yX6_set : MethodName := ⟨RX6, "set", "(III)I"⟩
abbrev cX6_star : ByteArray := prog_1_method_7_code
def yX6_star : MethodName := ⟨RX6, "star", "(III)I"⟩
abbrev cX6_starOf : ByteArray := prog_1_method_8_code
def yX6_starOf : MethodName := ⟨RX6, "starOf", "(II)I"⟩
abbrev cX6_chimney : ByteArray := prog_1_method_9_code
def yX6_chimney : MethodName := ⟨RX6, "chimney", "(II)I"⟩
abbrev cX6_smokes : ByteArray := prog_1_method_10_code
def yX6_smokes : MethodName := ⟨RX6, "smokes", "(I)I"⟩
abbrev cX6_rule : ByteArray := prog_1_method_11_code
def yX6_rule : MethodName := ⟨RX6, "rule", "(II)I"⟩
abbrev cX6_deal : ByteArray := prog_1_method_12_code
def yX6_deal : MethodName := ⟨RX6, "deal", "(I)I"⟩
abbrev cX6_seed : ByteArray := prog_1_method_13_code
def yX6_seed : MethodName := ⟨RX6, "seed", "(I)I"⟩
abbrev cX6_hours : ByteArray := prog_1_method_14_code
def yX6_hours : MethodName := ⟨RX6, "hours", "(I)I"⟩
abbrev cX6_town : ByteArray := prog_1_method_15_code
def yX6_town : MethodName := ⟨RX6, "town", "(I)I"⟩
abbrev cX6_cover : ByteArray := prog_1_method_16_code
def yX6_cover : MethodName := ⟨RX6, "cover", "(I)I"⟩
abbrev cX6_behind : ByteArray := prog_1_method_17_code
def yX6_behind : MethodName := ⟨RX6, "behind", "(II)I"⟩
abbrev cX6_debt : ByteArray := prog_1_method_18_code
def yX6_debt : MethodName := ⟨RX6, "debt", "(II)I"⟩
abbrev cX6_rises : ByteArray := prog_1_method_19_code
def yX6_rises : MethodName := ⟨RX6, "rises", "(II)I"⟩
abbrev cX6_turned : ByteArray := prog_1_method_20_code
def yX6_turned : MethodName := ⟨RX6, "turned", "(III)I"⟩
abbrev cX6_stands : ByteArray := prog_1_method_21_code
def yX6_stands : MethodName := ⟨RX6, "stands", "(II)I"⟩
abbrev cX6_becomes : ByteArray := prog_1_method_22_code
def yX6_becomes : MethodName := ⟨RX6, "becomes", "(III)I"⟩
abbrev cX6_like : ByteArray := prog_1_method_23_code
def yX6_like : MethodName := ⟨RX6, "like", "(II)I"⟩
abbrev cX6_fee : ByteArray := prog_1_method_24_code
def yX6_fee : MethodName := ⟨RX6, "fee", "()I"⟩
abbrev cX6_fine : ByteArray := prog_1_method_25_code
def yX6_fine : MethodName := ⟨RX6, "fine", "(I)I"⟩
abbrev cX6_feed : ByteArray := prog_1_method_26_code
def yX6_feed : MethodName := ⟨RX6, "feed", "(III)I"⟩
abbrev cX6_trim : ByteArray := prog_1_method_27_code
def yX6_trim : MethodName := ⟨RX6, "trim", "(I)I"⟩
abbrev cX6_text : ByteArray := prog_1_method_28_code
def yX6_text : MethodName := ⟨RX6, "text", "()I"⟩
abbrev cX6_textTold : ByteArray := prog_1_method_29_code
def yX6_textTold : MethodName := ⟨RX6, "textTold", "(II)I"⟩
abbrev cX6_why : ByteArray := prog_1_method_30_code
def yX6_why : MethodName := ⟨RX6, "why", "(I)I"⟩
abbrev cX6_sheet : ByteArray := prog_1_method_31_code
def yX6_sheet : MethodName := ⟨RX6, "sheet", "(III)I"⟩
abbrev cX6_mark : ByteArray := prog_1_method_32_code
def yX6_mark : MethodName := ⟨RX6, "mark", "(III)I"⟩
abbrev cX6_pour : ByteArray := prog_1_method_33_code
def yX6_pour : MethodName := ⟨RX6, "pour", "(I)I"⟩
abbrev cX6_reads : ByteArray := prog_1_method_34_code
def yX6_reads : MethodName := ⟨RX6, "reads", "(I)I"⟩
abbrev cX6_copy : ByteArray := prog_1_method_35_code
def yX6_copy : MethodName := ⟨RX6, "copy", "(IIIII)I"⟩
abbrev cX6_lay : ByteArray := prog_1_method_36_code
def yX6_lay : MethodName := ⟨RX6, "lay", "(III)I"⟩
abbrev cX6_ask : ByteArray := prog_1_method_37_code
def yX6_ask : MethodName := ⟨RX6, "ask", "(II)I"⟩
abbrev cX6_item : ByteArray := prog_1_method_38_code
def yX6_item : MethodName := ⟨RX6, "item", "(II)I"⟩
abbrev cX6_rest : ByteArray := prog_1_method_39_code
def yX6_rest : MethodName := ⟨RX6, "rest", "(II)I"⟩
abbrev cX6_tell : ByteArray := prog_1_method_40_code
def yX6_tell : MethodName := ⟨RX6, "tell", "(I)I"⟩
abbrev cX6_check : ByteArray := prog_1_method_41_code
def yX6_check : MethodName := ⟨RX6, "check", "(I)I"⟩
abbrev cX6_keep : ByteArray := prog_1_method_42_code
def yX6_keep : MethodName := ⟨RX6, "keep", "()I"⟩
abbrev cX6_back : ByteArray := prog_1_method_43_code
def yX6_back : MethodName := ⟨RX6, "back", "()I"⟩
abbrev cX6_count : ByteArray := prog_1_method_44_code
def yX6_count : MethodName := ⟨RX6, "count", "(I)I"⟩
abbrev cX6_within : ByteArray := prog_1_method_45_code
def yX6_within : MethodName := ⟨RX6, "within", "(III)Z"⟩
abbrev cX6_held : ByteArray := prog_1_method_46_code
def yX6_held : MethodName := ⟨RX6, "held", "(II)I"⟩
abbrev cX6_isBearing : ByteArray := prog_1_method_47_code
def yX6_isBearing : MethodName := ⟨RX6, "isBearing", "(I)Z"⟩
abbrev cX6_isStar : ByteArray := prog_1_method_48_code
def yX6_isStar : MethodName := ⟨RX6, "isStar", "(I)Z"⟩
abbrev cX6_isSheet : ByteArray := prog_1_method_49_code
def yX6_isSheet : MethodName := ⟨RX6, "isSheet", "(I)Z"⟩
abbrev cX6_isSlot : ByteArray := prog_1_method_50_code
def yX6_isSlot : MethodName := ⟨RX6, "isSlot", "(I)Z"⟩
abbrev cX6_isAttic : ByteArray := prog_1_method_51_code
def yX6_isAttic : MethodName := ⟨RX6, "isAttic", "(I)Z"⟩
abbrev cX6_bestOf : ByteArray := prog_1_method_52_code
def yX6_bestOf : MethodName := ⟨RX6, "bestOf", "(IIII)I"⟩
abbrev cX6_measureDifferences : ByteArray := prog_1_method_53_code
def yX6_measureDifferences : MethodName := ⟨RX6, "measureDifferences", "(LAtticStars$Sheet;)V"⟩
def RX7 : String := "AtticStarsModel"
def TX7 : u_T := fun k => match k with
  | 0 => ("AtticStarsModel", "now", "[I", true)
  | 1 => ("AtticStarsModel", "image", "[I", true)
  | 2 => ("AtticStarsModel", "aside", "[I", true)
  | 3 => ("AtticStarsModel", "hasImage", "Z", false)
  | 4 => ("AtticStarsModel", "seen", "[I", true)
  | 5 => ("AtticStarsModel", "unlike", "[I", true)
  | 6 => ("AtticStarsModel", "tape", "[I", true)
  | 7 => ("AtticStarsModel", "taped", "I", false)
  | 8 => ("AtticStarsModel", "next", "I", false)
  | 9 => ("AtticStarsModel", "from", "I", false)
  | 10 => ("AtticStarsModel", "token", "I", false)
  | 11 => ("AtticStarsModel", "value", "I", false)
  | 12 => ("AtticStarsModel", "ended", "I", false)
  | 13 => ("AtticStarsModel", "key", "I", false)
  | 14 => ("AtticStarsModel", "keys", "[C", true)
  | 15 => ("AtticStarsModel", "keyAt", "[I", true)
  | 16 => ("AtticStarsModel", "code", "[I", true)
  | 17 => ("AtticStarsModel", "codes", "I", false)
  | 18 => ("AtticStarsModel", "atoms", "I", false)
  | 19 => ("AtticStarsModel", "waits", "[I", true)
  | 20 => ("AtticStarsModel", "held", "I", false)
  | 21 => ("AtticStarsModel", "tested", "[Z", true)
  | 22 => ("AtticStarsModel", "stack", "[I", true)
  | 23 => ("AtticStarsModel", "facts", "[I", true)
  | 24 => ("AtticStarsModel", "sorts", "[I", true)
  | 25 => ("AtticStarsModel", "sizes", "[I", true)
  | 26 => ("AtticStarsModel", "cells", "[I", true)
  | 27 => ("AtticStarsModel", "holds", "[I", true)
  | 28 => ("AtticStarsModel", "holdsA", "[I", true)
  | 29 => ("AtticStarsModel", "holdsB", "[I", true)
  | 30 => ("AtticStarsModel", "heldCells", "[I", true)
  | 31 => ("AtticStarsModel", "moved", "[I", true)
  | 32 => ("AtticStarsModel", "tells", "[I", true)
  | _ => ("AtticStarsModel", "waiting", "I", false)
def tyX7 : Nat → FieldType := fun k => match k with
  | 0 => .array .int
  | 1 => .array .int
  | 2 => .array .int
  | 3 => .boolean
  | 4 => .array .int
  | 5 => .array .int
  | 6 => .array .int
  | 7 => .int
  | 8 => .int
  | 9 => .int
  | 10 => .int
  | 11 => .int
  | 12 => .int
  | 13 => .int
  | 14 => .array .char
  | 15 => .array .int
  | 16 => .array .int
  | 17 => .int
  | 18 => .int
  | 19 => .array .int
  | 20 => .int
  | 21 => .array .boolean
  | 22 => .array .int
  | 23 => .array .int
  | 24 => .array .int
  | 25 => .array .int
  | 26 => .array .int
  | 27 => .array .int
  | 28 => .array .int
  | 29 => .array .int
  | 30 => .array .int
  | 31 => .array .int
  | 32 => .array .int
  | _ => .int
abbrev wsX70 : List Cond := u_ws RX7 TX7 34
theorem nmX7 : ∀ a, a < 34 → ∀ b, b < 34 → a ≠ b → (TX7 a).2.1 ≠ (TX7 b).2.1 := by decide +kernel
theorem tyX7_ok : ∀ k, k < 34 → parseFieldDescriptor (TX7 k).2.2.1 = some (tyX7 k) := by decide +kernel
abbrev cX7_init : ByteArray := prog_9_method_1_code
def yX7_init : MethodName := ⟨RX7, "<init>", "()V"⟩
abbrev cX7_in : ByteArray := prog_9_method_2_code
def yX7_in : MethodName := ⟨RX7, "in", "(III)Z"⟩
abbrev cX7_within : ByteArray := prog_9_method_3_code
def yX7_within : MethodName := ⟨RX7, "within", "(III)I"⟩
abbrev cX7_copyAll : ByteArray := prog_9_method_4_code
def yX7_copyAll : MethodName := ⟨RX7, "copyAll", "([I[I)V"⟩
abbrev cX7_bits : ByteArray := prog_9_method_5_code
def yX7_bits : MethodName := ⟨RX7, "bits", "(I)I"⟩
abbrev cX7_isAttic : ByteArray := prog_9_method_6_code
def yX7_isAttic : MethodName := ⟨RX7, "isAttic", "(I)Z"⟩
abbrev cX7_isStar : ByteArray := prog_9_method_7_code
def yX7_isStar : MethodName := ⟨RX7, "isStar", "(I)Z"⟩
abbrev cX7_isBearing : ByteArray := prog_9_method_8_code
def yX7_isBearing : MethodName := ⟨RX7, "isBearing", "(I)Z"⟩
abbrev cX7_of : ByteArray := prog_9_method_9_code
def yX7_of : MethodName := ⟨RX7, "of", "(II)I"⟩
abbrev cX7_put : ByteArray := prog_9_method_10_code
def yX7_put : MethodName := ⟨RX7, "put", "(III)V"⟩
abbrev cX7_swaps : ByteArray := prog_9_method_11_code
def yX7_swaps : MethodName := ⟨RX7, "swaps", "(II)I"⟩
abbrev cX7_off : ByteArray := prog_9_method_12_code
def yX7_off : MethodName := ⟨RX7, "off", "(I)I"⟩
abbrev cX7_wideBy : ByteArray := prog_9_method_13_code
def yX7_wideBy : MethodName := ⟨RX7, "wideBy", "(II)I"⟩
abbrev cX7_wideOf : ByteArray := prog_9_method_14_code
def yX7_wideOf : MethodName := ⟨RX7, "wideOf", "(I)I"⟩
abbrev cX7_worthOf : ByteArray := prog_9_method_15_code
def yX7_worthOf : MethodName := ⟨RX7, "worthOf", "(I)I"⟩
abbrev cX7_standsAt : ByteArray := prog_9_method_16_code
def yX7_standsAt : MethodName := ⟨RX7, "standsAt", "(I)I"⟩
abbrev cX7_isHidden : ByteArray := prog_9_method_17_code
def yX7_isHidden : MethodName := ⟨RX7, "isHidden", "(II)Z"⟩
abbrev cX7_sees : ByteArray := prog_9_method_18_code
def yX7_sees : MethodName := ⟨RX7, "sees", "(I)I"⟩
abbrev cX7_pricesOf : ByteArray := prog_9_method_19_code
def yX7_pricesOf : MethodName := ⟨RX7, "pricesOf", "(I)I"⟩
abbrev cX7_rentOf : ByteArray := prog_9_method_20_code
def yX7_rentOf : MethodName := ⟨RX7, "rentOf", "(I)I"⟩
abbrev cX7_comes : ByteArray := prog_9_method_21_code
def yX7_comes : MethodName := ⟨RX7, "comes", "(III)I"⟩
abbrev cX7_attic : ByteArray := prog_9_method_22_code
def yX7_attic : MethodName := ⟨RX7, "attic", "(III)I"⟩
abbrev cX7_told : ByteArray := prog_9_method_23_code
def yX7_told : MethodName := ⟨RX7, "told", "(II)I"⟩
abbrev cX7_isUnder : ByteArray := prog_9_method_24_code
def yX7_isUnder : MethodName := ⟨RX7, "isUnder", "(II)Z"⟩
abbrev cX7_as : ByteArray := prog_9_method_25_code
def yX7_as : MethodName := ⟨RX7, "as", "(II)I"⟩
abbrev cX7_turns : ByteArray := prog_9_method_26_code
def yX7_turns : MethodName := ⟨RX7, "turns", "(II)I"⟩
abbrev cX7_set : ByteArray := prog_9_method_27_code
def yX7_set : MethodName := ⟨RX7, "set", "(III)I"⟩
abbrev cX7_star : ByteArray := prog_9_method_28_code
def yX7_star : MethodName := ⟨RX7, "star", "(III)I"⟩
abbrev cX7_seers : ByteArray := prog_9_method_29_code
def yX7_seers : MethodName := ⟨RX7, "seers", "(I)I"⟩
abbrev cX7_starOf : ByteArray := prog_9_method_30_code
def yX7_starOf : MethodName := ⟨RX7, "starOf", "(II)I"⟩
abbrev cX7_chimney : ByteArray := prog_9_method_31_code
def yX7_chimney : MethodName := ⟨RX7, "chimney", "(II)I"⟩
abbrev cX7_smokes : ByteArray := prog_9_method_32_code
def yX7_smokes : MethodName := ⟨RX7, "smokes", "(I)I"⟩
abbrev cX7_rule : ByteArray := prog_9_method_33_code
def yX7_rule : MethodName := ⟨RX7, "rule", "(II)I"⟩
abbrev cX7_draw : ByteArray := prog_9_method_34_code
def yX7_draw : MethodName := ⟨RX7, "draw", "()I"⟩
abbrev cX7_deal : ByteArray := prog_9_method_35_code
def yX7_deal : MethodName := ⟨RX7, "deal", "(I)I"⟩
abbrev cX7_seed : ByteArray := prog_9_method_36_code
def yX7_seed : MethodName := ⟨RX7, "seed", "(I)I"⟩
abbrev cX7_pays : ByteArray := prog_9_method_37_code
def yX7_pays : MethodName := ⟨RX7, "pays", "(I)V"⟩
abbrev cX7_hour : ByteArray := prog_9_method_38_code
def yX7_hour : MethodName := ⟨RX7, "hour", "()V"⟩
abbrev cX7_goesOn : ByteArray := prog_9_method_39_code
def yX7_goesOn : MethodName := ⟨RX7, "goesOn", "(I)V"⟩
abbrev cX7_hours : ByteArray := prog_9_method_40_code
def yX7_hours : MethodName := ⟨RX7, "hours", "(I)I"⟩
abbrev cX7_sumOf : ByteArray := prog_9_method_41_code
def yX7_sumOf : MethodName := ⟨RX7, "sumOf", "(I)I"⟩
abbrev cX7_dark : ByteArray := prog_9_method_42_code
def yX7_dark : MethodName := ⟨RX7, "dark", "()I"⟩
abbrev cX7_town : ByteArray := prog_9_method_43_code
def yX7_town : MethodName := ⟨RX7, "town", "(I)I"⟩
abbrev cX7_cover : ByteArray := prog_9_method_44_code
def yX7_cover : MethodName := ⟨RX7, "cover", "(I)I"⟩
abbrev cX7_thinks : ByteArray := prog_9_method_45_code
def yX7_thinks : MethodName := ⟨RX7, "thinks", "()V"⟩
abbrev cX7_putsBack : ByteArray := prog_9_method_46_code
def yX7_putsBack : MethodName := ⟨RX7, "putsBack", "()V"⟩
abbrev cX7_behind : ByteArray := prog_9_method_47_code
def yX7_behind : MethodName := ⟨RX7, "behind", "(II)I"⟩
abbrev cX7_debt : ByteArray := prog_9_method_48_code
def yX7_debt : MethodName := ⟨RX7, "debt", "(II)I"⟩
abbrev cX7_rises : ByteArray := prog_9_method_49_code
def yX7_rises : MethodName := ⟨RX7, "rises", "(II)I"⟩
abbrev cX7_mostBy : ByteArray := prog_9_method_50_code
def yX7_mostBy : MethodName := ⟨RX7, "mostBy", "(IIII)I"⟩
abbrev cX7_turned : ByteArray := prog_9_method_51_code
def yX7_turned : MethodName := ⟨RX7, "turned", "(III)I"⟩
abbrev cX7_becomes : ByteArray := prog_9_method_52_code
def yX7_becomes : MethodName := ⟨RX7, "becomes", "(III)I"⟩
abbrev cX7_stands : ByteArray := prog_9_method_53_code
def yX7_stands : MethodName := ⟨RX7, "stands", "(II)I"⟩
abbrev cX7_like : ByteArray := prog_9_method_54_code
def yX7_like : MethodName := ⟨RX7, "like", "(II)I"⟩
abbrev cX7_fee : ByteArray := prog_9_method_55_code
def yX7_fee : MethodName := ⟨RX7, "fee", "()I"⟩
abbrev cX7_fine : ByteArray := prog_9_method_56_code
def yX7_fine : MethodName := ⟨RX7, "fine", "(I)I"⟩
abbrev cX7_feed : ByteArray := prog_9_method_57_code
def yX7_feed : MethodName := ⟨RX7, "feed", "(III)I"⟩
abbrev cX7_trim : ByteArray := prog_9_method_58_code
def yX7_trim : MethodName := ⟨RX7, "trim", "(I)I"⟩
abbrev cX7_isLetter : ByteArray := prog_9_method_59_code
def yX7_isLetter : MethodName := ⟨RX7, "isLetter", "(I)Z"⟩
abbrev cX7_isFigure : ByteArray := prog_9_method_60_code
def yX7_isFigure : MethodName := ⟨RX7, "isFigure", "(I)Z"⟩
abbrev cX7_go : ByteArray := prog_9_method_61_code
def yX7_go : MethodName := ⟨RX7, "go", "()V"⟩
abbrev cX7_takesKey : ByteArray := prog_9_method_62_code
def yX7_takesKey : MethodName := ⟨RX7, "takesKey", "()Z"⟩
abbrev cX7_nameOf : ByteArray := prog_9_method_63_code
def yX7_nameOf : MethodName := ⟨RX7, "nameOf", "(I)I"⟩
abbrev cX7_rank : ByteArray := prog_9_method_64_code
def yX7_rank : MethodName := ⟨RX7, "rank", "(I)I"⟩
abbrev cX7_settle : ByteArray := prog_9_method_65_code
def yX7_settle : MethodName := ⟨RX7, "settle", "(I)V"⟩
abbrev cX7_signHere : ByteArray := prog_9_method_66_code
def yX7_signHere : MethodName := ⟨RX7, "signHere", "()I"⟩
abbrev cX7_takesPart : ByteArray := prog_9_method_67_code
def yX7_takesPart : MethodName := ⟨RX7, "takesPart", "()Z"⟩
abbrev cX7_takesE : ByteArray := prog_9_method_68_code
def yX7_takesE : MethodName := ⟨RX7, "takesE", "()Z"⟩
abbrev cX7_notsOpen : ByteArray := prog_9_method_69_code
def yX7_notsOpen : MethodName := ⟨RX7, "notsOpen", "()I"⟩
abbrev cX7_text : ByteArray := prog_9_method_70_code
def yX7_text : MethodName := ⟨RX7, "text", "()I"⟩
abbrev cX7_textTold : ByteArray := prog_9_method_71_code
def yX7_textTold : MethodName := ⟨RX7, "textTold", "(II)I"⟩
abbrev cX7_counts : ByteArray := prog_9_method_72_code
def yX7_counts : MethodName := ⟨RX7, "counts", "(I)I"⟩
abbrev cX7_why : ByteArray := prog_9_method_73_code
def yX7_why : MethodName := ⟨RX7, "why", "(I)I"⟩
abbrev cX7_two : ByteArray := prog_9_method_74_code
def yX7_two : MethodName := ⟨RX7, "two", "(III)I"⟩
abbrev cX7_worksOut : ByteArray := prog_9_method_75_code
def yX7_worksOut : MethodName := ⟨RX7, "worksOut", "(I)I"⟩
abbrev cX7_isSheet : ByteArray := prog_9_method_76_code
def yX7_isSheet : MethodName := ⟨RX7, "isSheet", "(I)Z"⟩
abbrev cX7_isSlot : ByteArray := prog_9_method_77_code
def yX7_isSlot : MethodName := ⟨RX7, "isSlot", "(I)Z"⟩
abbrev cX7_sheet : ByteArray := prog_9_method_78_code
def yX7_sheet : MethodName := ⟨RX7, "sheet", "(III)I"⟩
abbrev cX7_mark : ByteArray := prog_9_method_79_code
def yX7_mark : MethodName := ⟨RX7, "mark", "(III)I"⟩
abbrev cX7_pour : ByteArray := prog_9_method_80_code
def yX7_pour : MethodName := ⟨RX7, "pour", "(I)I"⟩
abbrev cX7_reads : ByteArray := prog_9_method_81_code
def yX7_reads : MethodName := ⟨RX7, "reads", "(I)I"⟩
abbrev cX7_copy : ByteArray := prog_9_method_82_code
def yX7_copy : MethodName := ⟨RX7, "copy", "(IIIII)I"⟩
abbrev cX7_lay : ByteArray := prog_9_method_83_code
def yX7_lay : MethodName := ⟨RX7, "lay", "(III)I"⟩
abbrev cX7_ask : ByteArray := prog_9_method_84_code
def yX7_ask : MethodName := ⟨RX7, "ask", "(II)I"⟩
abbrev cX7_item : ByteArray := prog_9_method_85_code
def yX7_item : MethodName := ⟨RX7, "item", "(II)I"⟩
abbrev cX7_rest : ByteArray := prog_9_method_86_code
def yX7_rest : MethodName := ⟨RX7, "rest", "(II)I"⟩
abbrev cX7_tell : ByteArray := prog_9_method_87_code
def yX7_tell : MethodName := ⟨RX7, "tell", "(I)I"⟩
abbrev cX7_check : ByteArray := prog_9_method_88_code
def yX7_check : MethodName := ⟨RX7, "check", "(I)I"⟩
abbrev cX7_keep : ByteArray := prog_9_method_89_code
def yX7_keep : MethodName := ⟨RX7, "keep", "()I"⟩
abbrev cX7_back : ByteArray := prog_9_method_90_code
def yX7_back : MethodName := ⟨RX7, "back", "()I"⟩
abbrev cX7_count : ByteArray := prog_9_method_91_code
def yX7_count : MethodName := ⟨RX7, "count", "(I)I"⟩
def RJ11 : String := "java/lang/Character"
abbrev cJ11_isValidCodePoint_9a6ad : ByteArray := prog_10_method_11_code
def yJ11_isValidCodePoint_9a6ad : MethodName := ⟨RJ11, "isValidCodePoint", "(I)Z"⟩
abbrev cJ11_highSurrogate_5068e : ByteArray := prog_10_method_28_code
def yJ11_highSurrogate_5068e : MethodName := ⟨RJ11, "highSurrogate", "(I)C"⟩
abbrev cJ11_lowSurrogate_5068e : ByteArray := prog_10_method_29_code
def yJ11_lowSurrogate_5068e : MethodName := ⟨RJ11, "lowSurrogate", "(I)C"⟩
def RJ6 : String := "java/lang/Integer"
abbrev cJ6_bitCount_0f7a4 : ByteArray := prog_11_method_49_code
def yJ6_bitCount_0f7a4 : MethodName := ⟨RJ6, "bitCount", "(I)I"⟩
def RJ9 : String := "java/lang/Math"
abbrev cJ9_abs_0f7a4 : ByteArray := prog_12_method_59_code
def yJ9_abs_0f7a4 : MethodName := ⟨RJ9, "abs", "(I)I"⟩
abbrev cJ9_max_7cf53 : ByteArray := prog_12_method_65_code
def yJ9_max_7cf53 : MethodName := ⟨RJ9, "max", "(II)I"⟩
abbrev cJ9_min_7cf53 : ByteArray := prog_12_method_69_code
def yJ9_min_7cf53 : MethodName := ⟨RJ9, "min", "(II)I"⟩
def RJ0 : String := "java/lang/String"
abbrev cJ0_length_8abf5 : ByteArray := prog_13_method_54_code
def yJ0_length_8abf5 : MethodName := ⟨RJ0, "length", "()I"⟩
abbrev cJ0_charAt_5068e : ByteArray := prog_13_method_56_code
def yJ0_charAt_5068e : MethodName := ⟨RJ0, "charAt", "(I)C"⟩
abbrev cJ0_indexOf_0f7a4 : ByteArray := prog_13_method_79_code
def yJ0_indexOf_0f7a4 : MethodName := ⟨RJ0, "indexOf", "(I)I"⟩
abbrev cJ0_indexOf_7cf53 : ByteArray := prog_13_method_80_code
def yJ0_indexOf_7cf53 : MethodName := ⟨RJ0, "indexOf", "(II)I"⟩
abbrev cJ0_coder_7d493 : ByteArray := prog_13_method_152_code
def yJ0_coder_7d493 : MethodName := ⟨RJ0, "coder", "()B"⟩
abbrev cJ0_isLatin1_aae02 : ByteArray := prog_13_method_154_code
def yJ0_isLatin1_aae02 : MethodName := ⟨RJ0, "isLatin1", "()Z"⟩
abbrev cJ0_checkIndex_df160 : ByteArray := prog_13_method_155_code
def yJ0_checkIndex_df160 : MethodName := ⟨RJ0, "checkIndex", "(II)V"⟩
abbrev cJ0_checkBoundsBeginEnd_23922 : ByteArray := prog_13_method_158_code
def yJ0_checkBoundsBeginEnd_23922 : MethodName := ⟨RJ0, "checkBoundsBeginEnd", "(III)V"⟩
def RJ1 : String := "java/lang/StringLatin1"
abbrev cJ1_charAt_3b067 : ByteArray := prog_14_method_2_code
def yJ1_charAt_3b067 : MethodName := ⟨RJ1, "charAt", "([BI)C"⟩
abbrev cJ1_canEncode_9a6ad : ByteArray := prog_14_method_4_code
def yJ1_canEncode_9a6ad : MethodName := ⟨RJ1, "canEncode", "(I)Z"⟩
abbrev cJ1_indexOf_4cfef : ByteArray := prog_14_method_22_code
def yJ1_indexOf_4cfef : MethodName := ⟨RJ1, "indexOf", "([BIII)I"⟩
abbrev cJ1_indexOfChar_4cfef : ByteArray := prog_14_method_23_code
def yJ1_indexOfChar_4cfef : MethodName := ⟨RJ1, "indexOfChar", "([BIII)I"⟩
def RJ2 : String := "java/lang/StringUTF16"
abbrev cJ2_getChar_3b067 : ByteArray := prog_15_method_5_code
def yJ2_getChar_3b067 : MethodName := ⟨RJ2, "getChar", "([BI)C"⟩
abbrev cJ2_length_9d52b : ByteArray := prog_15_method_6_code
def yJ2_length_9d52b : MethodName := ⟨RJ2, "length", "([B)I"⟩
abbrev cJ2_indexOf_4cfef : ByteArray := prog_15_method_40_code
def yJ2_indexOf_4cfef : MethodName := ⟨RJ2, "indexOf", "([BIII)I"⟩
abbrev cJ2_indexOfChar_4cfef : ByteArray := prog_15_method_47_code
def yJ2_indexOfChar_4cfef : MethodName := ⟨RJ2, "indexOfChar", "([BIII)I"⟩
abbrev cJ2_indexOfCharUnsafe_4cfef : ByteArray := prog_15_method_48_code
def yJ2_indexOfCharUnsafe_4cfef : MethodName := ⟨RJ2, "indexOfCharUnsafe", "([BIII)I"⟩
abbrev cJ2_indexOfSupplementary_4cfef : ByteArray := prog_15_method_49_code
def yJ2_indexOfSupplementary_4cfef : MethodName := ⟨RJ2, "indexOfSupplementary", "([BIII)I"⟩
abbrev cJ2_charAt_3b067 : ByteArray := prog_15_method_83_code
def yJ2_charAt_3b067 : MethodName := ⟨RJ2, "charAt", "([BI)C"⟩
abbrev cJ2_checkIndex_2214a : ByteArray := prog_15_method_91_code
def yJ2_checkIndex_2214a : MethodName := ⟨RJ2, "checkIndex", "(I[B)V"⟩
abbrev cJ2_checkBoundsBeginEnd_d044e : ByteArray := prog_15_method_93_code
def yJ2_checkBoundsBeginEnd_d044e : MethodName := ⟨RJ2, "checkBoundsBeginEnd", "(II[B)V"⟩
def RJ10 : String := "java/lang/System"
def RJ3 : String := "jdk/internal/util/Preconditions"
abbrev cJ3_checkIndex_8e157 : ByteArray := prog_17_method_11_code
def yJ3_checkIndex_8e157 : MethodName := ⟨RJ3, "checkIndex", "(IILjava/util/function/BiFunction;)I"⟩
abbrev cJ3_checkFromToIndex_8c36e : ByteArray := prog_17_method_12_code
def yJ3_checkFromToIndex_8c36e : MethodName := ⟨RJ3, "checkFromToIndex", "(IIILjava/util/function/BiFunction;)I"⟩
def RL : String := "AtticStarsLaw"
abbrev cL_law : ByteArray := code
def yL_law : MethodName := ⟨RL, "law", "([I)Z"⟩
abbrev vwCl : List vw_C := [(RX0, TX0, 5), (RX1, TX1, 3), (RX2, TX2, 4), (RX3, TX3, 11), (RX4, TX4, 3), (RX5, TX5, 18), (RX6, TX6, 10), (RX7, TX7, 34)]
abbrev Fr : Type := MethodName × ByteArray × Nat × Option FieldType
def fX0_init : Fr := (yX0_init, cX0_init, 1, none)
def fX0_renew : Fr := (yX0_renew, cX0_renew, 4, none)
def fX0_takeAfter : Fr := (yX0_takeAfter, cX0_takeAfter, 2, none)
def fX0_isOf : Fr := (yX0_isOf, cX0_isOf, 4, (some .boolean))
def fX0_pay : Fr := (yX0_pay, cX0_pay, 3, (some .int))
def fX0_earn : Fr := (yX0_earn, cX0_earn, 2, none)
def fX1_init : Fr := (yX1_init, cX1_init, 1, none)
def fX1_renew : Fr := (yX1_renew, cX1_renew, 4, none)
def fX1_takeAfter : Fr := (yX1_takeAfter, cX1_takeAfter, 2, none)
def fX1_hasPlace : Fr := (yX1_hasPlace, cX1_hasPlace, 2, (some .boolean))
def fX1_hasNumber : Fr := (yX1_hasNumber, cX1_hasNumber, 2, (some .boolean))
def fX1_hasPlaces : Fr := (yX1_hasPlaces, cX1_hasPlaces, 3, (some .boolean))
def fX2_init : Fr := (yX2_init, cX2_init, 1, none)
def fX3_init : Fr := (yX3_init, cX3_init, 1, none)
def fX3_append : Fr := (yX3_append, cX3_append, 3, none)
def fX3_readText : Fr := (yX3_readText, cX3_readText, 1, (some (.object "AtticStars$Text")))
def fX3_advance : Fr := (yX3_advance, cX3_advance, 3, none)
def fX3_sortAt : Fr := (yX3_sortAt, cX3_sortAt, 3, (some .int))
def fX3_signHere : Fr := (yX3_signHere, cX3_signHere, 1, (some .int))
def fX3_keyHere : Fr := (yX3_keyHere, cX3_keyHere, 1, (some .int))
def fX3_isHere : Fr := (yX3_isHere, cX3_isHere, 3, (some .boolean))
def fX3_readJoined : Fr := (yX3_readJoined, cX3_readJoined, 5, (some .boolean))
def fX3_rankOf : Fr := (yX3_rankOf, cX3_rankOf, 1, (some .int))
def fX3_readPiece : Fr := (yX3_readPiece, cX3_readPiece, 2, (some .boolean))
def fX3_readLeaf : Fr := (yX3_readLeaf, cX3_readLeaf, 2, (some .boolean))
def fX3_readNot : Fr := (yX3_readNot, cX3_readNot, 1, (some .boolean))
def fX3_readOpen : Fr := (yX3_readOpen, cX3_readOpen, 1, (some .boolean))
def fX3_numberHere : Fr := (yX3_numberHere, cX3_numberHere, 3, (some .int))
def fX3_nameHere : Fr := (yX3_nameHere, cX3_nameHere, 2, (some .int))
def fX3_addStep : Fr := (yX3_addStep, cX3_addStep, 2, none)
def fX4_init : Fr := (yX4_init, cX4_init, 5, none)
def fX4_gives : Fr := (yX4_gives, cX4_gives, 6, (some .int))
def fX4_joined : Fr := (yX4_joined, cX4_joined, 3, (some .int))
def fX5_init : Fr := (yX5_init, cX5_init, 2, none)
def fX5_takeAfter : Fr := (yX5_takeAfter, cX5_takeAfter, 3, none)
def fX5_addAttic : Fr := (yX5_addAttic, cX5_addAttic, 4, (some .int))
def fX5_drawAttic : Fr := (yX5_drawAttic, cX5_drawAttic, 4, none)
def fX5_addText : Fr := (yX5_addText, cX5_addText, 2, (some .int))
def fX5_draw : Fr := (yX5_draw, cX5_draw, 1, (some .int))
def fX5_passHour : Fr := (yX5_passHour, cX5_passHour, 4, none)
def fX5_choose : Fr := (yX5_choose, cX5_choose, 5, (some .boolean))
def fX5_bearingOf : Fr := (yX5_bearingOf, cX5_bearingOf, 2, (some .int))
def fX5_wideOf : Fr := (yX5_wideOf, cX5_wideOf, 2, (some .int))
def fX5_hidingFrom : Fr := (yX5_hidingFrom, cX5_hidingFrom, 2, (some .int))
def fX5_seenBy : Fr := (yX5_seenBy, cX5_seenBy, 8, (some .int))
def fX5_watchersOf : Fr := (yX5_watchersOf, cX5_watchersOf, 4, (some .int))
def fX5_dark : Fr := (yX5_dark, cX5_dark, 3, (some .int))
def fX5_fewestFor : Fr := (yX5_fewestFor, cX5_fewestFor, 6, (some .int))
def fX5_viewOf : Fr := (yX5_viewOf, cX5_viewOf, 4, (some .int))
def fX5_rentOf : Fr := (yX5_rentOf, cX5_rentOf, 4, (some .int))
def fX5_plainRentOf : Fr := (yX5_plainRentOf, cX5_plainRentOf, 5, (some .int))
def fX5_feeGives : Fr := (yX5_feeGives, cX5_feeGives, 2, (some .int))
def fX5_fineGives : Fr := (yX5_fineGives, cX5_fineGives, 3, (some .int))
def fX5_textFor : Fr := (yX5_textFor, cX5_textFor, 3, (some (.object "AtticStars$Text")))
def fX5_owedByAll : Fr := (yX5_owedByAll, cX5_owedByAll, 3, (some .int))
def fX5_coinOfAll : Fr := (yX5_coinOfAll, cX5_coinOfAll, 3, (some .int))
def fX5_rentOfAll : Fr := (yX5_rentOfAll, cX5_rentOfAll, 3, (some .int))
def fX6_init : Fr := (yX6_init, cX6_init, 2, none)
def fX6_attic : Fr := (yX6_attic, cX6_attic, 4, (some .int))
def fX6_told : Fr := (yX6_told, cX6_told, 4, (some .int))
def fX6_as : Fr := (yX6_as, cX6_as, 4, (some .int))
def fX6_turns : Fr := (yX6_turns, cX6_turns, 5, (some .int))
def fX6_set : Fr := (yX6_set, cX6_set, 6, (some .int))
def fX6_star : Fr := (yX6_star, cX6_star, 5, (some .int))
def fX6_starOf : Fr := (yX6_starOf, cX6_starOf, 3, (some .int))
def fX6_chimney : Fr := (yX6_chimney, cX6_chimney, 4, (some .int))
def fX6_smokes : Fr := (yX6_smokes, cX6_smokes, 2, (some .int))
def fX6_rule : Fr := (yX6_rule, cX6_rule, 4, (some .int))
def fX6_deal : Fr := (yX6_deal, cX6_deal, 4, (some .int))
def fX6_seed : Fr := (yX6_seed, cX6_seed, 3, (some .int))
def fX6_hours : Fr := (yX6_hours, cX6_hours, 4, (some .int))
def fX6_town : Fr := (yX6_town, cX6_town, 2, (some .int))
def fX6_cover : Fr := (yX6_cover, cX6_cover, 2, (some .int))
def fX6_behind : Fr := (yX6_behind, cX6_behind, 4, (some .int))
def fX6_debt : Fr := (yX6_debt, cX6_debt, 4, (some .int))
def fX6_rises : Fr := (yX6_rises, cX6_rises, 4, (some .int))
def fX6_turned : Fr := (yX6_turned, cX6_turned, 4, (some .int))
def fX6_stands : Fr := (yX6_stands, cX6_stands, 3, (some .int))
def fX6_becomes : Fr := (yX6_becomes, cX6_becomes, 4, (some .int))
def fX6_like : Fr := (yX6_like, cX6_like, 6, (some .int))
def fX6_fee : Fr := (yX6_fee, cX6_fee, 1, (some .int))
def fX6_fine : Fr := (yX6_fine, cX6_fine, 2, (some .int))
def fX6_feed : Fr := (yX6_feed, cX6_feed, 4, (some .int))
def fX6_trim : Fr := (yX6_trim, cX6_trim, 2, (some .int))
def fX6_text : Fr := (yX6_text, cX6_text, 2, (some .int))
def fX6_textTold : Fr := (yX6_textTold, cX6_textTold, 4, (some .int))
def fX6_why : Fr := (yX6_why, cX6_why, 2, (some .int))
def fX6_sheet : Fr := (yX6_sheet, cX6_sheet, 4, (some .int))
def fX6_mark : Fr := (yX6_mark, cX6_mark, 5, (some .int))
def fX6_pour : Fr := (yX6_pour, cX6_pour, 6, (some .int))
def fX6_reads : Fr := (yX6_reads, cX6_reads, 4, (some .int))
def fX6_copy : Fr := (yX6_copy, cX6_copy, 8, (some .int))
def fX6_lay : Fr := (yX6_lay, cX6_lay, 6, (some .int))
def fX6_ask : Fr := (yX6_ask, cX6_ask, 4, (some .int))
def fX6_item : Fr := (yX6_item, cX6_item, 4, (some .int))
def fX6_rest : Fr := (yX6_rest, cX6_rest, 4, (some .int))
def fX6_tell : Fr := (yX6_tell, cX6_tell, 2, (some .int))
def fX6_check : Fr := (yX6_check, cX6_check, 6, (some .int))
def fX6_keep : Fr := (yX6_keep, cX6_keep, 1, (some .int))
def fX6_back : Fr := (yX6_back, cX6_back, 1, (some .int))
def fX6_count : Fr := (yX6_count, cX6_count, 2, (some .int))
def fX6_within : Fr := (yX6_within, cX6_within, 3, (some .boolean))
def fX6_held : Fr := (yX6_held, cX6_held, 2, (some .int))
def fX6_isBearing : Fr := (yX6_isBearing, cX6_isBearing, 1, (some .boolean))
def fX6_isStar : Fr := (yX6_isStar, cX6_isStar, 1, (some .boolean))
def fX6_isSheet : Fr := (yX6_isSheet, cX6_isSheet, 1, (some .boolean))
def fX6_isSlot : Fr := (yX6_isSlot, cX6_isSlot, 1, (some .boolean))
def fX6_isAttic : Fr := (yX6_isAttic, cX6_isAttic, 2, (some .boolean))
def fX6_bestOf : Fr := (yX6_bestOf, cX6_bestOf, 10, (some .int))
def fX6_measureDifferences : Fr := (yX6_measureDifferences, cX6_measureDifferences, 4, none)
def fX7_init : Fr := (yX7_init, cX7_init, 2, none)
def fX7_in : Fr := (yX7_in, cX7_in, 3, (some .boolean))
def fX7_within : Fr := (yX7_within, cX7_within, 3, (some .int))
def fX7_copyAll : Fr := (yX7_copyAll, cX7_copyAll, 3, none)
def fX7_bits : Fr := (yX7_bits, cX7_bits, 3, (some .int))
def fX7_isAttic : Fr := (yX7_isAttic, cX7_isAttic, 2, (some .boolean))
def fX7_isStar : Fr := (yX7_isStar, cX7_isStar, 1, (some .boolean))
def fX7_isBearing : Fr := (yX7_isBearing, cX7_isBearing, 1, (some .boolean))
def fX7_of : Fr := (yX7_of, cX7_of, 3, (some .int))
def fX7_put : Fr := (yX7_put, cX7_put, 4, none)
def fX7_swaps : Fr := (yX7_swaps, cX7_swaps, 4, (some .int))
def fX7_off : Fr := (yX7_off, cX7_off, 1, (some .int))
def fX7_wideBy : Fr := (yX7_wideBy, cX7_wideBy, 3, (some .int))
def fX7_wideOf : Fr := (yX7_wideOf, cX7_wideOf, 2, (some .int))
def fX7_worthOf : Fr := (yX7_worthOf, cX7_worthOf, 2, (some .int))
def fX7_standsAt : Fr := (yX7_standsAt, cX7_standsAt, 2, (some .int))
def fX7_isHidden : Fr := (yX7_isHidden, cX7_isHidden, 4, (some .boolean))
def fX7_sees : Fr := (yX7_sees, cX7_sees, 7, (some .int))
def fX7_pricesOf : Fr := (yX7_pricesOf, cX7_pricesOf, 4, (some .int))
def fX7_rentOf : Fr := (yX7_rentOf, cX7_rentOf, 6, (some .int))
def fX7_comes : Fr := (yX7_comes, cX7_comes, 5, (some .int))
def fX7_attic : Fr := (yX7_attic, cX7_attic, 4, (some .int))
def fX7_told : Fr := (yX7_told, cX7_told, 3, (some .int))
def fX7_isUnder : Fr := (yX7_isUnder, cX7_isUnder, 2, (some .boolean))
def fX7_as : Fr := (yX7_as, cX7_as, 3, (some .int))
def fX7_turns : Fr := (yX7_turns, cX7_turns, 3, (some .int))
def fX7_set : Fr := (yX7_set, cX7_set, 5, (some .int))
def fX7_star : Fr := (yX7_star, cX7_star, 5, (some .int))
def fX7_seers : Fr := (yX7_seers, cX7_seers, 4, (some .int))
def fX7_starOf : Fr := (yX7_starOf, cX7_starOf, 3, (some .int))
def fX7_chimney : Fr := (yX7_chimney, cX7_chimney, 4, (some .int))
def fX7_smokes : Fr := (yX7_smokes, cX7_smokes, 2, (some .int))
def fX7_rule : Fr := (yX7_rule, cX7_rule, 3, (some .int))
def fX7_draw : Fr := (yX7_draw, cX7_draw, 1, (some .int))
def fX7_deal : Fr := (yX7_deal, cX7_deal, 6, (some .int))
def fX7_seed : Fr := (yX7_seed, cX7_seed, 2, (some .int))
def fX7_pays : Fr := (yX7_pays, cX7_pays, 4, none)
def fX7_hour : Fr := (yX7_hour, cX7_hour, 4, none)
def fX7_goesOn : Fr := (yX7_goesOn, cX7_goesOn, 3, none)
def fX7_hours : Fr := (yX7_hours, cX7_hours, 3, (some .int))
def fX7_sumOf : Fr := (yX7_sumOf, cX7_sumOf, 4, (some .int))
def fX7_dark : Fr := (yX7_dark, cX7_dark, 3, (some .int))
def fX7_town : Fr := (yX7_town, cX7_town, 2, (some .int))
def fX7_cover : Fr := (yX7_cover, cX7_cover, 6, (some .int))
def fX7_thinks : Fr := (yX7_thinks, cX7_thinks, 1, none)
def fX7_putsBack : Fr := (yX7_putsBack, cX7_putsBack, 1, none)
def fX7_behind : Fr := (yX7_behind, cX7_behind, 4, (some .int))
def fX7_debt : Fr := (yX7_debt, cX7_debt, 4, (some .int))
def fX7_rises : Fr := (yX7_rises, cX7_rises, 4, (some .int))
def fX7_mostBy : Fr := (yX7_mostBy, cX7_mostBy, 9, (some .int))
def fX7_turned : Fr := (yX7_turned, cX7_turned, 4, (some .int))
def fX7_becomes : Fr := (yX7_becomes, cX7_becomes, 4, (some .int))
def fX7_stands : Fr := (yX7_stands, cX7_stands, 7, (some .int))
def fX7_like : Fr := (yX7_like, cX7_like, 7, (some .int))
def fX7_fee : Fr := (yX7_fee, cX7_fee, 2, (some .int))
def fX7_fine : Fr := (yX7_fine, cX7_fine, 3, (some .int))
def fX7_feed : Fr := (yX7_feed, cX7_feed, 6, (some .int))
def fX7_trim : Fr := (yX7_trim, cX7_trim, 2, (some .int))
def fX7_isLetter : Fr := (yX7_isLetter, cX7_isLetter, 2, (some .boolean))
def fX7_isFigure : Fr := (yX7_isFigure, cX7_isFigure, 2, (some .boolean))
def fX7_go : Fr := (yX7_go, cX7_go, 2, none)
def fX7_takesKey : Fr := (yX7_takesKey, cX7_takesKey, 5, (some .boolean))
def fX7_nameOf : Fr := (yX7_nameOf, cX7_nameOf, 2, (some .int))
def fX7_rank : Fr := (yX7_rank, cX7_rank, 1, (some .int))
def fX7_settle : Fr := (yX7_settle, cX7_settle, 2, none)
def fX7_signHere : Fr := (yX7_signHere, cX7_signHere, 1, (some .int))
def fX7_takesPart : Fr := (yX7_takesPart, cX7_takesPart, 2, (some .boolean))
def fX7_takesE : Fr := (yX7_takesE, cX7_takesE, 5, (some .boolean))
def fX7_notsOpen : Fr := (yX7_notsOpen, cX7_notsOpen, 3, (some .int))
def fX7_text : Fr := (yX7_text, cX7_text, 4, (some .int))
def fX7_textTold : Fr := (yX7_textTold, cX7_textTold, 3, (some .int))
def fX7_counts : Fr := (yX7_counts, cX7_counts, 3, (some .int))
def fX7_why : Fr := (yX7_why, cX7_why, 3, (some .int))
def fX7_two : Fr := (yX7_two, cX7_two, 3, (some .int))
def fX7_worksOut : Fr := (yX7_worksOut, cX7_worksOut, 6, (some .int))
def fX7_isSheet : Fr := (yX7_isSheet, cX7_isSheet, 1, (some .boolean))
def fX7_isSlot : Fr := (yX7_isSlot, cX7_isSlot, 1, (some .boolean))
def fX7_sheet : Fr := (yX7_sheet, cX7_sheet, 5, (some .int))
def fX7_mark : Fr := (yX7_mark, cX7_mark, 4, (some .int))
def fX7_pour : Fr := (yX7_pour, cX7_pour, 6, (some .int))
def fX7_reads : Fr := (yX7_reads, cX7_reads, 4, (some .int))
def fX7_copy : Fr := (yX7_copy, cX7_copy, 7, (some .int))
def fX7_lay : Fr := (yX7_lay, cX7_lay, 6, (some .int))
def fX7_ask : Fr := (yX7_ask, cX7_ask, 3, (some .int))
def fX7_item : Fr := (yX7_item, cX7_item, 4, (some .int))
def fX7_rest : Fr := (yX7_rest, cX7_rest, 3, (some .int))
def fX7_tell : Fr := (yX7_tell, cX7_tell, 2, (some .int))
def fX7_check : Fr := (yX7_check, cX7_check, 6, (some .int))
def fX7_keep : Fr := (yX7_keep, cX7_keep, 1, (some .int))
def fX7_back : Fr := (yX7_back, cX7_back, 1, (some .int))
def fX7_count : Fr := (yX7_count, cX7_count, 2, (some .int))
def fJ11_isValidCodePoint_9a6ad : Fr := (yJ11_isValidCodePoint_9a6ad, cJ11_isValidCodePoint_9a6ad, 2, (some .boolean))
def fJ11_highSurrogate_5068e : Fr := (yJ11_highSurrogate_5068e, cJ11_highSurrogate_5068e, 1, (some .char))
def fJ11_lowSurrogate_5068e : Fr := (yJ11_lowSurrogate_5068e, cJ11_lowSurrogate_5068e, 1, (some .char))
def fJ6_bitCount_0f7a4 : Fr := (yJ6_bitCount_0f7a4, cJ6_bitCount_0f7a4, 1, (some .int))
def fJ9_abs_0f7a4 : Fr := (yJ9_abs_0f7a4, cJ9_abs_0f7a4, 1, (some .int))
def fJ9_max_7cf53 : Fr := (yJ9_max_7cf53, cJ9_max_7cf53, 2, (some .int))
def fJ9_min_7cf53 : Fr := (yJ9_min_7cf53, cJ9_min_7cf53, 2, (some .int))
def fJ0_length_8abf5 : Fr := (yJ0_length_8abf5, cJ0_length_8abf5, 1, (some .int))
def fJ0_charAt_5068e : Fr := (yJ0_charAt_5068e, cJ0_charAt_5068e, 2, (some .char))
def fJ0_indexOf_0f7a4 : Fr := (yJ0_indexOf_0f7a4, cJ0_indexOf_0f7a4, 2, (some .int))
def fJ0_indexOf_7cf53 : Fr := (yJ0_indexOf_7cf53, cJ0_indexOf_7cf53, 3, (some .int))
def fJ0_coder_7d493 : Fr := (yJ0_coder_7d493, cJ0_coder_7d493, 1, (some .byte))
def fJ0_isLatin1_aae02 : Fr := (yJ0_isLatin1_aae02, cJ0_isLatin1_aae02, 1, (some .boolean))
def fJ0_checkIndex_df160 : Fr := (yJ0_checkIndex_df160, cJ0_checkIndex_df160, 2, none)
def fJ0_checkBoundsBeginEnd_23922 : Fr := (yJ0_checkBoundsBeginEnd_23922, cJ0_checkBoundsBeginEnd_23922, 3, none)
def fJ1_charAt_3b067 : Fr := (yJ1_charAt_3b067, cJ1_charAt_3b067, 2, (some .char))
def fJ1_canEncode_9a6ad : Fr := (yJ1_canEncode_9a6ad, cJ1_canEncode_9a6ad, 1, (some .boolean))
def fJ1_indexOf_4cfef : Fr := (yJ1_indexOf_4cfef, cJ1_indexOf_4cfef, 4, (some .int))
def fJ1_indexOfChar_4cfef : Fr := (yJ1_indexOfChar_4cfef, cJ1_indexOfChar_4cfef, 6, (some .int))
def fJ2_getChar_3b067 : Fr := (yJ2_getChar_3b067, cJ2_getChar_3b067, 2, (some .char))
def fJ2_length_9d52b : Fr := (yJ2_length_9d52b, cJ2_length_9d52b, 1, (some .int))
def fJ2_indexOf_4cfef : Fr := (yJ2_indexOf_4cfef, cJ2_indexOf_4cfef, 4, (some .int))
def fJ2_indexOfChar_4cfef : Fr := (yJ2_indexOfChar_4cfef, cJ2_indexOfChar_4cfef, 4, (some .int))
def fJ2_indexOfCharUnsafe_4cfef : Fr := (yJ2_indexOfCharUnsafe_4cfef, cJ2_indexOfCharUnsafe_4cfef, 5, (some .int))
def fJ2_indexOfSupplementary_4cfef : Fr := (yJ2_indexOfSupplementary_4cfef, cJ2_indexOfSupplementary_4cfef, 7, (some .int))
def fJ2_charAt_3b067 : Fr := (yJ2_charAt_3b067, cJ2_charAt_3b067, 2, (some .char))
def fJ2_checkIndex_2214a : Fr := (yJ2_checkIndex_2214a, cJ2_checkIndex_2214a, 2, none)
def fJ2_checkBoundsBeginEnd_d044e : Fr := (yJ2_checkBoundsBeginEnd_d044e, cJ2_checkBoundsBeginEnd_d044e, 3, none)
def fJ3_checkIndex_8e157 : Fr := (yJ3_checkIndex_8e157, cJ3_checkIndex_8e157, 3, (some .int))
def fJ3_checkFromToIndex_8c36e : Fr := (yJ3_checkFromToIndex_8c36e, cJ3_checkFromToIndex_8c36e, 4, (some .int))
def nF (c : Nat) : Nat := ([5, 3, 4, 11, 3, 18, 10, 34] : List Nat).getD c 0
def rTab : List (List Bool) := [[false, false, false, false, false], [true, false, false], [false, true, true, false], [true, false, false, false, false, false, false, false, false, true, false], [false, false, true], [true, true, true, false, false, false, false, false, false, false, false, false, true, false, true, true, true, true], [true, true, true, false, true, true, true, true, false, true], [true, true, true, false, true, true, true, false, false, false, false, false, false, false, true, true, true, false, false, true, false, true, true, true, true, true, true, true, true, true, true, true, true, false]]
def isR (c j : Nat) : Bool := (rTab.getD c []).getD j false
def nestW : List Cond := [.methodLinkNest RX5 52 yX0_init RX6, .methodLinkNest RX6 24 yX3_init RX6, .methodLinkNest RX6 48 yX1_init RX6, .methodLinkNest RX6 49 yX2_init RX6, .methodLinkNest RX2 9 yX0_init RX6, .methodLinkNest RX2 18 yX1_init RX6, .methodLinkNest RX5 113 yX6_within RX6, .methodLinkNest RX5 169 yX6_held RX6, .methodLinkNest RX0 27 yX6_within RX6, .fieldLinkNest RX0 31 RX6 "KIND_ABOVE" "[I" RX6, .methodLinkNest RX1 28 yX6_within RX6]
def sLen : List Nat := [4, 3, 4, 4, 2, 2]
def sByt : List (List Int32) := [[119, 97, 110, 116], [102, 101, 101], [102, 105, 110, 101], [112, 110, 104, 119], [116, 111], [99, 111]]
def sIdx (i : Nat) : Nat := ([66, 72, 74, 113, 115, 117] : List Nat).getD i 0
def sTx (i : Nat) : String := (["want", "fee", "fine", "pnhw", "to", "co"] : List String).getD i ""
end
section
/-! The world as numbers: a cell of place i (address base + i) holds ints 'mi i j' and references 'S.2.2 i j' (places); its kind is 'S.2.1 i'.
kinds 0 .. 7: an object of vwCl; 8 int[], 9 boolean[], 10 char[], 11 Attic[], 12 Sheet[], 13 Slot[], 14 Text[] (with its length). -/
abbrev Mem : Type := Nat → Nat → Int32
abbrev Rfm : Type := Nat → Nat → Option Nat
abbrev Sg : Type := Nat × (Nat → Nat × Nat) × Rfm
/-- base; classes; array classes; KIND_ABOVE's address; the texts' addresses and their rows' ; the script's address, length, ints -/
abbrev Xb : Type := Nat × va_G × (Nat → ClassId) × Nat × (Nat → Nat) × (Nat → Nat) × Nat × Nat × (Nat → Int32)
abbrev rf (X : Xb) (i : Nat) : Value := .ref (X.1 + i)
abbrev bA (X : Xb) : Nat → Prop := fun q => X.1 ≤ q
def TW : List Cond := lw_tbl.filter goodWord
theorem TW_of {w : Cond} (i : Nat) (h : lw_tbl[i]? = some w) (g : goodWord w = true) : w ∈ TW := List.mem_filter.mpr ⟨List.mem_of_getElem? h, g⟩
def m_up (mi : Mem) (i j : Nat) (v : Int32) : Mem := fun a k => if a = i ∧ k = j then v else mi a k
def r_up (mr : Rfm) (i j : Nat) (v : Option Nat) : Rfm := fun a k => if a = i ∧ k = j then v else mr a k
def flds (b c : Nat) (f : Nat → Int32) (g : Nat → Option Nat) : List Value := (List.range (nF c)).map (fun j => if isR c j then va_rf ((g j).map (b + ·)) else .int (f j))
def cellE (X : Xb) (S : Sg) (mi : Mem) (i : Nat) : va_E :=
  if (S.2.1 i).1 < 8 then .inr ((S.2.1 i).1, flds X.1 (S.2.1 i).1 (mi i) (S.2.2 i))
  else if (S.2.1 i).1 < 11 then .inl (X.2.2.1 ((S.2.1 i).1 - 8), (S.2.1 i).2, .inl (mi i))
  else .inl (X.2.2.1 ((S.2.1 i).1 - 8), (S.2.1 i).2, .inr (.inr (.inr (.inr (fun j => (S.2.2 i j).map (X.1 + ·))))))
def wsOf (X : Xb) (S : Sg) (mi : Mem) : va_W := (List.range S.1).map (fun i => (X.1 + i, cellE X S mi i))
def tysOf (dA : Nat → ClassId) : List (ClassId × FieldType) := [(dA 0, .int), (dA 1, .boolean), (dA 2, .char), (dA 3, .object RX0), (dA 4, .object RX1), (dA 5, .object RX2), (dA 6, .object RX4)]
def Kd (S : Sg) (i c z : Nat) : Prop := i < S.1 ∧ S.2.1 i = (c, z)
def Wp (X : Xb) (S : Sg) (mi : Mem) (H : Heap) : Prop := H.size = X.1 + S.1 ∧ va_P X.2.1 vwCl (wsOf X S mi) H
theorem ws_at {X : Xb} {S : Sg} {mi : Mem} {i : Nat} (h : i < S.1) : (wsOf X S mi)[i]? = some (X.1 + i, cellE X S mi i) := by
  unfold wsOf
  rw [List.getElem?_map, List.getElem?_range h]; rfl
theorem ws_D (X : Xb) (S : Sg) (mi : Mem) : va_D (bA X) (wsOf X S mi) := by
  have h0 : ∀ (k : Nat) (q : Nat × va_E), (wsOf X S mi)[k]? = some q → q.1 = X.1 + k := by
    intro k q h
    by_cases hk : k < S.1
    · rw [ws_at hk] at h; cases h; rfl
    · exfalso
      have : (wsOf X S mi).length = S.1 := by simp [wsOf]
      rw [List.getElem?_eq_none (by omega)] at h; cases h
  refine ⟨fun i j p q hp hq e => ?_, fun k q h => ?_⟩
  · have h1 := h0 i p hp
    have h2 := h0 j q hq
    omega
  · show X.1 ≤ q.1
    have := h0 k q h
    omega
/-- a cell is written: the others are as they were -/
theorem ws_set {X : Xb} {S S' : Sg} {mi mi' : Mem} {i : Nat} {E : va_E} (hn : S'.1 = S.1) (hE : cellE X S' mi' i = E) (ho : ∀ j, j ≠ i → cellE X S' mi' j = cellE X S mi j) : (wsOf X S mi).set i (X.1 + i, E) = wsOf X S' mi' := by
  apply List.ext_getElem?
  intro j
  rw [List.getElem?_set]
  have hl : (wsOf X S mi).length = S.1 := by simp [wsOf]
  have hl' : (wsOf X S' mi').length = S.1 := by simp [wsOf, hn]
  by_cases hj : j < S.1
  · rw [ws_at (S := S') (by omega), ws_at hj]
    by_cases hij : i = j
    · subst hij
      simp [hl, hj, hE]
    · rw [if_neg hij, ho j (fun e => hij e.symm)]
  · rw [List.getElem?_eq_none (l := wsOf X S' mi') (by omega), List.getElem?_eq_none (l := wsOf X S mi) (by omega)]
    by_cases hij : i = j
    · subst hij
      simp [hl, hj]
    · rw [if_neg hij]
theorem ws_push {X : Xb} {S S' : Sg} {mi mi' : Mem} {E : va_E} (hn : S'.1 = S.1 + 1) (hE : cellE X S' mi' S.1 = E) (ho : ∀ j, j < S.1 → cellE X S' mi' j = cellE X S mi j) : wsOf X S mi ++ [(X.1 + S.1, E)] = wsOf X S' mi' := by
  unfold wsOf
  rw [hn, List.range_succ, List.map_append, List.map_singleton, hE]
  congr 1
  apply List.map_congr_left
  intro j hj
  rw [ho j (List.mem_range.mp hj)]
theorem flds_len (b c : Nat) (f : Nat → Int32) (g : Nat → Option Nat) : (flds b c f g).length = nF c := by simp [flds]
theorem flds_at {b c k : Nat} {f : Nat → Int32} {g : Nat → Option Nat} (h : k < nF c) : (flds b c f g)[k]? = some (if isR c k then va_rf ((g k).map (b + ·)) else .int (f k)) := by
  unfold flds
  rw [List.getElem?_map, List.getElem?_range h]; rfl
theorem flds_set {b c k : Nat} {f f' : Nat → Int32} {g g' : Nat → Option Nat} {v : Value} (hv : (if isR c k then va_rf ((g' k).map (b + ·)) else .int (f' k)) = v) (ho : ∀ j, j ≠ k → f' j = f j ∧ g' j = g j) : (flds b c f g).set k v = flds b c f' g' := by
  apply List.ext_getElem?
  intro j
  rw [List.getElem?_set]
  by_cases hj : j < nF c
  · rw [flds_at hj, flds_at hj]
    by_cases hkj : k = j
    · subst hkj
      simp [flds_len, hj, hv]
    · rw [if_neg hkj, (ho j (fun e => hkj e.symm)).1, (ho j (fun e => hkj e.symm)).2]
  · rw [List.getElem?_eq_none (l := flds b c f' g') (by rw [flds_len]; omega), List.getElem?_eq_none (l := flds b c f g) (by rw [flds_len]; omega)]
    by_cases hkj : k = j
    · subst hkj
      simp [flds_len, hj]
    · rw [if_neg hkj]
theorem cell_obj {X : Xb} {S : Sg} {mi : Mem} {i c z : Nat} (h : Kd S i c z) (hc : c < 8) : cellE X S mi i = .inr (c, flds X.1 c (mi i) (S.2.2 i)) := by
  unfold cellE
  rw [h.2]; simp [hc]
theorem cell_int {X : Xb} {S : Sg} {mi : Mem} {i c z : Nat} (h : Kd S i c z) (hc : ¬ c < 8) (hc2 : c < 11) : cellE X S mi i = .inl (X.2.2.1 (c - 8), z, .inl (mi i)) := by
  unfold cellE
  rw [h.2]; simp [hc, hc2]
theorem cell_ref {X : Xb} {S : Sg} {mi : Mem} {i c z : Nat} (h : Kd S i c z) (hc : ¬ c < 11) : cellE X S mi i = .inl (X.2.2.1 (c - 8), z, .inr (.inr (.inr (.inr (fun j => (S.2.2 i j).map (X.1 + ·)))))) := by
  unfold cellE
  rw [h.2]; simp [hc, show ¬ c < 8 by omega]
theorem cell_eq {X : Xb} {S S' : Sg} {mi mi' : Mem} {j : Nat} (hk : S'.2.1 j = S.2.1 j) (hm : mi' j = mi j) (hr : S'.2.2 j = S.2.2 j) : cellE X S' mi' j = cellE X S mi j := by
  unfold cellE
  rw [hk, hm, hr]
theorem m_up_ne {mi : Mem} {i j a : Nat} {v : Int32} (h : a ≠ i) : m_up mi i j v a = mi a := by
  funext k
  simp [m_up, h]
theorem r_up_ne {mr : Rfm} {i j a : Nat} {v : Option Nat} (h : a ≠ i) : r_up mr i j v a = mr a := by
  funext k
  simp [r_up, h]
theorem m_up_row (mi : Mem) (i j : Nat) (v : Int32) : m_up mi i j v i = upd (mi i) j v := by
  funext k
  simp [m_up, upd]
/-! the locals -/
def prs (L : List (Option Value)) : List (Nat × Value) := (List.range L.length).filterMap (fun i => (L.getD i none).map (fun v => (i, v)))
theorem prs_mem {L : List (Option Value)} {i : Nat} {v : Value} : (i, v) ∈ prs L ↔ L[i]? = some (some v) := by
  unfold prs
  rw [List.mem_filterMap]
  constructor
  · rintro ⟨a, ha, h⟩
    rw [List.mem_range] at ha
    rw [Option.map_eq_some_iff] at h
    obtain ⟨w, hw, e⟩ := h
    cases e
    rw [List.getD_eq_getElem?_getD, List.getElem?_eq_getElem ha, Option.getD_some] at hw
    rw [List.getElem?_eq_getElem ha, hw]
  · intro h
    have hl : i < L.length := (List.getElem?_eq_some_iff.mp h).1
    refine ⟨i, List.mem_range.mpr hl, ?_⟩
    rw [List.getD_eq_getElem?_getD, h]; rfl
def Lv (ls : Array Slot) (nL : Nat) (L : List (Option Value)) : Prop := L.length = nL ∧ lv_has ls nL (prs L) ∧ ∀ (i : Nat) (v : Value), L[i]? = some (some v) → v.category = 1
theorem Lv.at {ls : Array Slot} {nL : Nat} {L : List (Option Value)} (h : Lv ls nL L) {i : Nat} {v : Value} (hi : L[i]? = some (some v)) : ls[i]? = some (.val v) := h.2.1.2.2 (i, v) (prs_mem.mpr hi)
theorem Lv.store {ls' : Array Slot} {nL : Nat} {L : List (Option Value)} {i : Nat} {x : Value} (hlen : L.length = nL) (hcat : ∀ (i : Nat) (v : Value), L[i]? = some (some v) → v.category = 1) (hi : i < nL) (hx : x.category = 1)
    (h : lv_has ls' nL ((i, x) :: (prs L).filter (fun q => !(q.1 == i) && !(q.1 + 1 == i && q.2.category == 2)))) : Lv ls' nL (L.set i (some x)) := by
  have key : ∀ (j : Nat) (v : Value), (L.set i (some x))[j]? = some (some v) → (j = i ∧ v = x) ∨ (j ≠ i ∧ L[j]? = some (some v)) := by
    intro j v hj
    rw [List.getElem?_set] at hj
    by_cases e : i = j
    · subst e
      rw [if_pos rfl, if_pos (by omega)] at hj
      cases hj; exact Or.inl ⟨rfl, rfl⟩
    · rw [if_neg e] at hj
      exact Or.inr ⟨fun q => e q.symm, hj⟩
  refine ⟨by rw [List.length_set]; exact hlen, ⟨h.1, h.2.1, fun q hq => ?_⟩, fun j v hj => ?_⟩
  · obtain ⟨j, v⟩ := q
    rcases key j v (prs_mem.mp hq) with ⟨rfl, rfl⟩ | ⟨e, hj⟩
    · exact h.2.2 _ List.mem_cons_self
    · refine h.2.2 _ (List.mem_cons_of_mem _ (List.mem_filter.mpr ⟨prs_mem.mpr hj, ?_⟩))
      have hc := hcat j v hj
      simp [e, hc]
  · rcases key j v hj with ⟨rfl, rfl⟩ | ⟨e, hj⟩
    · exact hx
    · exact hcat j v hj
/-- fewer known locals -/
def lsub : List (Option Value) → List (Option Value) → Prop
  | [], [] => True
  | a :: A, b :: B => (a = b ∨ a = none) ∧ lsub A B
  | _, _ => False
theorem lsub_at : ∀ {A B : List (Option Value)}, lsub A B → A.length = B.length ∧ ∀ (i : Nat) (v : Value), A[i]? = some (some v) → B[i]? = some (some v)
  | [], [], _ => ⟨rfl, fun i v h => by simp at h⟩
  | a :: A, b :: B, h => by
    obtain ⟨h1, h2⟩ := lsub_at h.2
    refine ⟨by simp [h1], fun i v hv => ?_⟩
    cases i with
    | zero =>
      rcases h.1 with rfl | rfl
      · exact hv
      · simp at hv
    | succ n =>
      simp only [List.getElem?_cons_succ] at hv ⊢
      exact h2 n v hv
  | [], _ :: _, h => h.elim
  | _ :: _, [], h => h.elim
theorem Lv.sub {ls : Array Slot} {nL : Nat} {A B : List (Option Value)} (h : Lv ls nL B) (hs : lsub A B) : Lv ls nL A := by
  obtain ⟨h1, h2⟩ := lsub_at hs
  refine ⟨h1.trans h.1, ⟨h.2.1.1, h.2.1.2.1, fun q hq => ?_⟩, fun i v hv => h.2.2 i v (h2 i v hv)⟩
  obtain ⟨j, v⟩ := q
  exact h.at (h2 j v (prs_mem.mp hq))
end
section
/-! What stays through a whole run (Fx), the judgement MW (W over the world as numbers), its rows, an instruction each. -/
def aoC : List String := [RX0, RX1, RX2, RX4]
def kaF : Nat → Value := fun j => .int (([-1, 0, 0, 1, 2, 0] : List Int32).getD j 0)
def Fx (X : Xb) (U : State) : Prop :=
  va_K X.2.1 vwCl (tysOf X.2.2.1) U ∧ (∀ w ∈ nestW, va_Nw w U) ∧ (∀ C ∈ aoC, va_AO C U) ∧ va_Z RX6 "KIND_ABOVE" "[I" (.ref X.2.2.2.1) (bA X) U U.heap ∧ va_T .int X.2.2.2.1 6 kaF (bA X) U U.heap ∧
  vk_S 6 sLen sByt X.2.2.2.2.1 X.2.2.2.2.2.1 (bA X) U U.heap ∧ (∀ i, i < 6 → vk_R RX3 (sIdx i) (sTx i) (X.2.2.2.2.1 i) U) ∧
  va_Z RJ0 "COMPACT_STRINGS" "Z" (.int 1) (bA X) U U.heap ∧ va_Zq RJ3 "SIOOBE_FORMATTER" "Ljava/util/function/BiFunction;" (bA X) U U.heap ∧ va_X X.2.2.2.2.2.2.1 X.2.2.2.2.2.2.2.1 X.2.2.2.2.2.2.2.2 U U.heap ∧ X.2.2.2.2.2.2.1 < X.1
theorem nestW_warm {s U : State} (hW : s.WarmedH U.vm) (h : ∀ w ∈ nestW, va_Nw w s) : ∀ w ∈ nestW, va_Nw w U := by
  intro w hw
  have h1 := h w hw
  simp only [nestW, List.mem_cons, List.not_mem_nil, or_false] at hw
  rcases hw with rfl | rfl | rfl | rfl | rfl | rfl | rfl | rfl | rfl | rfl | rfl <;> first | exact va_Nw.warmM hW h1 | exact va_Nw.warmF hW h1
theorem Fx.go {X : Xb} {s U : State} (h : Fx X s) (hb : X.1 ≤ s.heap.size) (hW : s.WarmedH U.vm) (hk : ∀ q : Nat, q < s.heap.size → ¬ bA X q → U.heap[q]? = s.heap[q]?) : Fx X U := by
  obtain ⟨h1, h2, h3, h4, h5, h6, h7, h8, h9, h10, h11⟩ := h
  have ha := hW.alike
  refine ⟨va_K.moved ha h1, nestW_warm hW h2, fun C hC => va_AO.moved ha (h3 C hC), (va_Z.moved ha h4).kept hk, (va_T.moved ha h5).kept hk, (vk_S.moved ha h6).kept hk, fun i hi => vk_R.warm hW (h7 i hi), (va_Z.moved ha h8).kept hk, (va_Zq.moved ha h9).kept hk, ?_, h11⟩
  have hq : ¬ bA X X.2.2.2.2.2.2.1 := Nat.not_le.mpr h11
  exact (va_X.moved ha h10).kept (hk _ (by omega) hq)
/-- the method fr at its entry: the machine, its code, the tables' words, what stays -/
def Cx (fr : Fr) (X : Xb) (p : Program) (s : State) (m : MethodId) (args : Array Value) (meth : Method) (c : Code) : Prop :=
  p.tables.exec = Jvm.exec ∧ c.code = fr.2.1 ∧ c.maxLocals = fr.2.2.1 ∧ s.vm.findClass fr.1.cls = some m.cls ∧ (∀ w ∈ TW, w.before args s = true) ∧ meth.sig.returnType = fr.2.2.2 ∧ meth.locks = false ∧ meth.name = fr.1.name ∧ X.1 ≤ s.heap.size ∧ Fx X s
abbrev Qt : Type := List Frame → Array Value → State → State → Prop
def MW (X : Xb) (fr : Fr) (R : Room) (kc sl pc : Nat) (L : List (Option Value)) (st : List Value) (S : Sg) (mi : Mem) (Q : Qt) : Prop :=
  ∀ (p : Program) (l : Launch) (e : Env) (s : State) (m : MethodId) (args : Array Value) (below : List Frame) (meth : Method) (c : Code) (H : Heap) (locs : List Loc) (ls : Array Slot), Cx fr X p s m args meth c → va_S (bA X) s.heap H locs → Wp X S mi H → Lv ls fr.2.2.1 L → W p l e R s m args below meth c H locs kc sl (Q below args s) (F0 m pc ls st)
abbrev Pt3 : Type := Option Value → Sg → Mem → Prop
def Qc3 (X : Xb) (P : Pt3) : Array Value → State → Outcome → State → Prop := fun _ st oc t => (∃ (r : Option Value) (S' : Sg) (mi' : Mem), oc = .returned r ∧ P r S' mi' ∧ Wp X S' mi' t.heap) ∧ va_F (bA X) st t
def mQ (X : Xb) (mc ms : Nat) (P : Pt3) : Qt := fun below args s => MQ below (Qc3 X P) args s mc ms (bA X)
def rmOf (d mc ms : Nat) : Room := { frames := d, cells := mc, slots := ms, locals := 40 * d }
def Pre3 (X : Xb) (S : Sg) (mi : Mem) : State → Prop := fun U => Wp X S mi U.heap ∧ Fx X U
/-- THE CONTRACT: fr, called with av in the world S, mi, ends, its answer and the world behind it are of P; d frames, mc cells, ms slots -/
def Ok (d mc ms : Nat) (fr : Fr) (X : Xb) (av : List Value) (S : Sg) (mi : Mem) (P : Pt3) : Prop :=
  ∀ l : Launch, Met l fr.1 (.code fr.1 fr.2.1 fr.2.2.1 fr.2.2.2 :: TW) (rmOf d mc ms) (va_Pc av (Pre3 X S mi)) (Qc3 X P) mc ms (bA X)
abbrev lv0 (av : List Value) (n : Nat) : List (Option Value) := av.map some ++ List.replicate (n - av.length) none
theorem lg_sl1 : ∀ (av : List Value), (∀ v ∈ av, v.category = 1) → lg_sl av = av.map Slot.val
  | [], _ => rfl
  | v :: av, h => by
    have h1 : v.category = 1 := h v List.mem_cons_self
    have ih := lg_sl1 av (fun w hw => h w (List.mem_cons_of_mem _ hw))
    unfold lg_sl at ih ⊢
    rw [List.flatMap_cons, ih]
    simp [h1]
theorem lv_args1 : ∀ (av : List Value) (k : Nat), (∀ v ∈ av, v.category = 1) → ∀ (i : Nat) (v : Value), av[i]? = some v → (k + i, v) ∈ lv_args k av
  | [], _, _, i, v, h => by simp at h
  | a :: av, k, hc, i, v, h => by
    have h1 : a.category = 1 := hc a List.mem_cons_self
    have ih := lv_args1 av (k + 1) (fun w hw => hc w (List.mem_cons_of_mem _ hw))
    cases i with
    | zero =>
      simp only [List.getElem?_cons_zero, Option.some.injEq] at h
      subst h
      simp [lv_args]
    | succ n =>
      simp only [List.getElem?_cons_succ] at h
      have := ih n v h
      rw [show k + 1 + n = k + (n + 1) by omega] at this
      simp only [lv_args, h1]
      exact List.mem_cons_of_mem _ this
theorem Lv_entry {av : List Value} {n : Nat} (hc : ∀ v ∈ av, v.category = 1) (hn : av.length ≤ n) : Lv ((lg_sl av ++ List.replicate (n - (lg_sl av).length) Slot.unset).toArray) n (lv0 av n) := by
  have hlen : (lg_sl av).length = av.length := by rw [lg_sl1 av hc, List.length_map]
  have h0 := lv_entry av (n := n) (by rw [hlen]; exact hn)
  have key : ∀ (i : Nat) (v : Value), (lv0 av n)[i]? = some (some v) → av[i]? = some v := by
    intro i v h
    unfold lv0 at h
    by_cases hi : i < av.length
    · rw [List.getElem?_append_left (by simpa using hi), List.getElem?_map] at h
      rw [Option.map_eq_some_iff] at h
      obtain ⟨w, hw, e⟩ := h
      cases e; exact hw
    · rw [List.getElem?_append_right (by simpa using hi)] at h
      rw [List.getElem?_replicate] at h
      split at h <;> cases h
  refine ⟨by simp; omega, ⟨h0.1, h0.2.1, fun q hq => ?_⟩, fun i v h => hc v (List.mem_of_getElem? (key i v h))⟩
  obtain ⟨i, v⟩ := q
  have := lv_args1 av 0 hc i v (key i v (prs_mem.mp hq))
  rw [Nat.zero_add] at this
  exact h0.2.2 _ this
theorem Ok.of {d mc ms : Nat} {fr : Fr} {X : Xb} {av : List Value} {S : Sg} {mi : Mem} {P : Pt3} (hy : plainName fr.1.cls = true) (hc : ∀ v ∈ av, v.category = 1) (hn : av.length ≤ fr.2.2.1)
    (h : MW X fr (rmOf d mc ms) 0 0 0 (lv0 av fr.2.2.1) [] S mi (mQ X mc ms P)) : Ok d mc ms fr X av S mi P := by
  intro l
  refine Met.ofW (cc := fr.2.1) (maxL := fr.2.2.1) (ret := fr.2.2.2) hy rfl ?_
  intro p e s m args below meth c s₁ B hml hv
  obtain ⟨rfl, hW, hF⟩ := hv
  have hts := atoms_spec (ws := .code fr.1 fr.2.1 fr.2.2.1 fr.2.2.2 :: TW) B.pre
  rw [lg_entry_eq]
  exact h p l e s m av.toArray below meth c s.heap [] _ ⟨B.exec, B.bytes, hml, findClass_of_methodNamed B.named, fun w hw => hts w (List.mem_cons_of_mem _ hw), B.returns, B.notSynchronized, (name_of_methodNamed B.named B.method).1, by rw [hW.1]; exact Nat.le_add_right _ _, hF⟩ va_S.rf hW (Lv_entry hc hn)
theorem Ok.post {d mc ms : Nat} {fr : Fr} {X : Xb} {av : List Value} {S : Sg} {mi : Mem} {P P' : Pt3} (h : Ok d mc ms fr X av S mi P) (hp : ∀ r S' mi', P r S' mi' → P' r S' mi') : Ok d mc ms fr X av S mi P' := by
  intro l p e ha hc hk s m args below hf happ hpre hK
  obtain ⟨k, o, h1, h2, h3, ⟨⟨r, S', mi', e1, e2, e3⟩, hF⟩, hL⟩ := h l p e ha hc hk s m args below hf happ hpre hK
  exact ⟨k, o, h1, h2, h3, ⟨⟨r, S', mi', e1, hp _ _ _ e2, e3⟩, hF⟩, hL⟩
end
section
section MWR
variable {X : Xb} {fr : Fr} {R : Room} {kc sl pc : Nat} {L : List (Option Value)} {st : List Value} {S : Sg} {mi : Mem} {Q : Qt}
/-- Java's rest -/
def jr (x y : Int32) : Int32 := x - x / y * y
def jus (x y : Int32) : Int32 := (x.toUInt32 >>> (y.toUInt32 &&& Int32.toUInt32 31)).toInt32
abbrev Ct (v : Value) : Prop := v.category = 1
theorem MW.eq {pc' : Nat} {L' : List (Option Value)} {st' : List Value} {S' : Sg} {mi' : Mem} (h1 : pc = pc') (h2 : L = L') (h3 : st = st') (h4 : S = S') (h5 : mi = mi') (k : MW X fr R kc sl pc' L' st' S' mi' Q) : MW X fr R kc sl pc L st S mi Q := by
  subst h1; subst h2; subst h3; subst h4; subst h5; exact k
theorem MW.sub {L' : List (Option Value)} (h : lsub L' L) (k : MW X fr R kc sl pc L' st S mi Q) : MW X fr R kc sl pc L st S mi Q :=
  fun p l e s m args below meth c H locs ls C hS hP hL => k p l e s m args below meth c H locs ls C hS hP (hL.sub h)
theorem MW.widen {k n : Nat} (h1 : kc ≤ k) (h2 : sl ≤ n) (kk : MW X fr R k n pc L st S mi Q) : MW X fr R kc sl pc L st S mi Q :=
  fun p l e s m args below meth c H locs ls C hS hP hL => W.widen h1 h2 (kk p l e s m args below meth c H locs ls C hS hP hL)
theorem mw_iconst {n : Int} {v : Int32} (hd : decode fr.2.1 pc = .ok (.iconst n, 1)) (hv : Int32.ofInt n = v) (k : MW X fr R kc sl (pc + 1) L (.int v :: st) S mi Q) : MW X fr R kc sl pc L (st) S mi Q :=
  fun p l e s m args below meth c H locs ls C hS hP hL => lv_iconst C.1 C.2.1 hd hv (k p l e s m args below meth c H locs ls C hS hP hL)
theorem mw_bipush {n : Int} {v : Int32} (hd : decode fr.2.1 pc = .ok (.bipush n, 2)) (hv : (Int8.ofInt n).toInt32 = v) (k : MW X fr R kc sl (pc + 2) L (.int v :: st) S mi Q) : MW X fr R kc sl pc L (st) S mi Q :=
  fun p l e s m args below meth c H locs ls C hS hP hL => lv_bipush C.1 C.2.1 hd hv (k p l e s m args below meth c H locs ls C hS hP hL)
theorem mw_sipush {n : Int} {v : Int32} (hd : decode fr.2.1 pc = .ok (.sipush n, 3)) (hv : (Int16.ofInt n).toInt32 = v) (k : MW X fr R kc sl (pc + 3) L (.int v :: st) S mi Q) : MW X fr R kc sl pc L (st) S mi Q :=
  fun p l e s m args below meth c H locs ls C hS hP hL => lv_sipush C.1 C.2.1 hd hv (k p l e s m args below meth c H locs ls C hS hP hL)
theorem mw_null  (hd : decode fr.2.1 pc = .ok (.aconst_null, 1))  (k : MW X fr R kc sl (pc + 1) L (.null :: st) S mi Q) : MW X fr R kc sl pc L (st) S mi Q :=
  fun p l e s m args below meth c H locs ls C hS hP hL => lv_null C.1 C.2.1 hd (k p l e s m args below meth c H locs ls C hS hP hL)
theorem mw_ldc {i : Nat} {v : Int32} (hd : decode fr.2.1 pc = .ok (.ldc i, 2)) (hv : Cond.constant fr.1.cls i v ∈ TW) (k : MW X fr R kc sl (pc + 2) L (.int v :: st) S mi Q) : MW X fr R kc sl pc L (st) S mi Q :=
  fun p l e s m args below meth c H locs ls C hS hP hL => lv_ldc C.1 C.2.1 C.2.2.2.1 (C.2.2.2.2.1 _ hv) hd (k p l e s m args below meth c H locs ls C hS hP hL)
theorem mw_ldcw {i : Nat} {v : Int32} (hd : decode fr.2.1 pc = .ok (.ldc_w i, 3)) (hv : Cond.constant fr.1.cls i v ∈ TW) (k : MW X fr R kc sl (pc + 3) L (.int v :: st) S mi Q) : MW X fr R kc sl pc L (st) S mi Q :=
  fun p l e s m args below meth c H locs ls C hS hP hL => lv_ldcw C.1 C.2.1 C.2.2.2.1 (C.2.2.2.2.1 _ hv) hd (k p l e s m args below meth c H locs ls C hS hP hL)
theorem mw_iload_n {k : Fin 4} {x : Int32} (hd : decode fr.2.1 pc = .ok (.iload_n k, 1)) (hl : L[(k : Nat)]? = some (some (.int x))) (k : MW X fr R kc sl (pc + 1) L (.int x :: st) S mi Q) : MW X fr R kc sl pc L (st) S mi Q :=
  fun p l e s m args below meth c H locs ls C hS hP hL => lv_iload_n C.1 C.2.1 hd rfl (hL.at hl) (k p l e s m args below meth c H locs ls C hS hP hL)
theorem mw_iload {i : Nat} {x : Int32} (hd : decode fr.2.1 pc = .ok (.iload i, 2)) (hl : L[i]? = some (some (.int x))) (k : MW X fr R kc sl (pc + 2) L (.int x :: st) S mi Q) : MW X fr R kc sl pc L (st) S mi Q :=
  fun p l e s m args below meth c H locs ls C hS hP hL => lv_iload C.1 C.2.1 hd (hL.at hl) (k p l e s m args below meth c H locs ls C hS hP hL)
theorem mw_aload_n {k : Fin 4} {x : Nat} (hd : decode fr.2.1 pc = .ok (.aload_n k, 1)) (hl : L[(k : Nat)]? = some (some (.ref x))) (k : MW X fr R kc sl (pc + 1) L (.ref x :: st) S mi Q) : MW X fr R kc sl pc L (st) S mi Q :=
  fun p l e s m args below meth c H locs ls C hS hP hL => lv_aload_n C.1 C.2.1 hd rfl (hL.at hl) (k p l e s m args below meth c H locs ls C hS hP hL)
theorem mw_aload {i : Nat} {x : Nat} (hd : decode fr.2.1 pc = .ok (.aload i, 2)) (hl : L[i]? = some (some (.ref x))) (k : MW X fr R kc sl (pc + 2) L (.ref x :: st) S mi Q) : MW X fr R kc sl pc L (st) S mi Q :=
  fun p l e s m args below meth c H locs ls C hS hP hL => lv_aload C.1 C.2.1 hd (hL.at hl) (k p l e s m args below meth c H locs ls C hS hP hL)
theorem mw_aload_nN {k : Fin 4} (hd : decode fr.2.1 pc = .ok (.aload_n k, 1)) (hl : L[(k : Nat)]? = some (some .null)) (k : MW X fr R kc sl (pc + 1) L (.null :: st) S mi Q) : MW X fr R kc sl pc L (st) S mi Q :=
  fun p l e s m args below meth c H locs ls C hS hP hL => lv_aload_nN C.1 C.2.1 hd rfl (hL.at hl) (k p l e s m args below meth c H locs ls C hS hP hL)
theorem mw_istore_n {k : Fin 4} {x : Int32} (hd : decode fr.2.1 pc = .ok (.istore_n k, 1)) (hi : (k : Nat) < fr.2.2.1) (k : MW X fr R kc sl (pc + 1) (L.set (k : Nat) (some (.int x))) st S mi Q) : MW X fr R kc sl pc L (.int x :: st) S mi Q :=
  fun p l e s m args below meth c H locs ls C hS hP hL => lv_istore_n C.1 C.2.1 hd rfl hL.2.1 hi rfl (fun ls' h => k p l e s m args below meth c H locs ls' C hS hP (Lv.store hL.1 hL.2.2 hi rfl h))
theorem mw_istore {i : Nat} {x : Int32} (hd : decode fr.2.1 pc = .ok (.istore i, 2)) (hi : i < fr.2.2.1) (k : MW X fr R kc sl (pc + 2) (L.set i (some (.int x))) st S mi Q) : MW X fr R kc sl pc L (.int x :: st) S mi Q :=
  fun p l e s m args below meth c H locs ls C hS hP hL => lv_istore C.1 C.2.1 hd hL.2.1 hi rfl (fun ls' h => k p l e s m args below meth c H locs ls' C hS hP (Lv.store hL.1 hL.2.2 hi rfl h))
theorem mw_astore_n {k : Fin 4} {x : Nat} (hd : decode fr.2.1 pc = .ok (.astore_n k, 1)) (hi : (k : Nat) < fr.2.2.1) (k : MW X fr R kc sl (pc + 1) (L.set (k : Nat) (some (.ref x))) st S mi Q) : MW X fr R kc sl pc L (.ref x :: st) S mi Q :=
  fun p l e s m args below meth c H locs ls C hS hP hL => lv_astore_n C.1 C.2.1 hd rfl hL.2.1 hi rfl (fun ls' h => k p l e s m args below meth c H locs ls' C hS hP (Lv.store hL.1 hL.2.2 hi rfl h))
theorem mw_astore {i : Nat} {x : Nat} (hd : decode fr.2.1 pc = .ok (.astore i, 2)) (hi : i < fr.2.2.1) (k : MW X fr R kc sl (pc + 2) (L.set i (some (.ref x))) st S mi Q) : MW X fr R kc sl pc L (.ref x :: st) S mi Q :=
  fun p l e s m args below meth c H locs ls C hS hP hL => lv_astore C.1 C.2.1 hd hL.2.1 hi rfl (fun ls' h => k p l e s m args below meth c H locs ls' C hS hP (Lv.store hL.1 hL.2.2 hi rfl h))
theorem mw_astore_nN {k : Fin 4} (hd : decode fr.2.1 pc = .ok (.astore_n k, 1)) (hi : (k : Nat) < fr.2.2.1) (k : MW X fr R kc sl (pc + 1) (L.set (k : Nat) (some (.null))) st S mi Q) : MW X fr R kc sl pc L (.null :: st) S mi Q :=
  fun p l e s m args below meth c H locs ls C hS hP hL => lv_astore_nN C.1 C.2.1 hd rfl hL.2.1 hi rfl (fun ls' h => k p l e s m args below meth c H locs ls' C hS hP (Lv.store hL.1 hL.2.2 hi rfl h))
theorem mw_iinc {i : Nat} {n : Int} {x v : Int32} (hd : decode fr.2.1 pc = .ok (.iinc i n, 3)) (hl : L[i]? = some (some (.int x))) (hi : i < fr.2.2.1) (hv : x + Int32.ofInt n = v) (k : MW X fr R kc sl (pc + 3) (L.set i (some (.int v))) st S mi Q) : MW X fr R kc sl pc L st S mi Q := by
  intro p l e s m args below meth c H locs ls C hS hP hL
  obtain ⟨j, hj⟩ := List.getElem?_of_mem (prs_mem.mpr hl)
  exact lv_iinc C.1 C.2.1 hd hL.2.1 hj hv hi rfl (fun ls' h => k p l e s m args below meth c H locs ls' C hS hP (Lv.store hL.1 hL.2.2 hi rfl h))
theorem mw_iadd {x y : Int32} (hd : decode fr.2.1 pc = .ok (.iadd, 1))  (k : MW X fr R kc sl (pc + 1) L (.int (x + y) :: st) S mi Q) : MW X fr R kc sl pc L (.int y :: .int x :: st) S mi Q :=
  fun p l e s m args below meth c H locs ls C hS hP hL => lv_iadd C.1 C.2.1 hd (k p l e s m args below meth c H locs ls C hS hP hL)
theorem mw_isub {x y : Int32} (hd : decode fr.2.1 pc = .ok (.isub, 1))  (k : MW X fr R kc sl (pc + 1) L (.int (x - y) :: st) S mi Q) : MW X fr R kc sl pc L (.int y :: .int x :: st) S mi Q :=
  fun p l e s m args below meth c H locs ls C hS hP hL => lv_isub C.1 C.2.1 hd (k p l e s m args below meth c H locs ls C hS hP hL)
theorem mw_imul {x y : Int32} (hd : decode fr.2.1 pc = .ok (.imul, 1))  (k : MW X fr R kc sl (pc + 1) L (.int (x * y) :: st) S mi Q) : MW X fr R kc sl pc L (.int y :: .int x :: st) S mi Q :=
  fun p l e s m args below meth c H locs ls C hS hP hL => lv_imul C.1 C.2.1 hd (k p l e s m args below meth c H locs ls C hS hP hL)
theorem mw_iand {x y : Int32} (hd : decode fr.2.1 pc = .ok (.iand, 1))  (k : MW X fr R kc sl (pc + 1) L (.int (x &&& y) :: st) S mi Q) : MW X fr R kc sl pc L (.int y :: .int x :: st) S mi Q :=
  fun p l e s m args below meth c H locs ls C hS hP hL => lv_iand C.1 C.2.1 hd (k p l e s m args below meth c H locs ls C hS hP hL)
theorem mw_ior {x y : Int32} (hd : decode fr.2.1 pc = .ok (.ior, 1))  (k : MW X fr R kc sl (pc + 1) L (.int (x ||| y) :: st) S mi Q) : MW X fr R kc sl pc L (.int y :: .int x :: st) S mi Q :=
  fun p l e s m args below meth c H locs ls C hS hP hL => lv_ior C.1 C.2.1 hd (k p l e s m args below meth c H locs ls C hS hP hL)
theorem mw_ixor {x y : Int32} (hd : decode fr.2.1 pc = .ok (.ixor, 1))  (k : MW X fr R kc sl (pc + 1) L (.int (x ^^^ y) :: st) S mi Q) : MW X fr R kc sl pc L (.int y :: .int x :: st) S mi Q :=
  fun p l e s m args below meth c H locs ls C hS hP hL => lv_ixor C.1 C.2.1 hd (k p l e s m args below meth c H locs ls C hS hP hL)
theorem mw_ishl {x y : Int32} (hd : decode fr.2.1 pc = .ok (.ishl, 1))  (k : MW X fr R kc sl (pc + 1) L (.int (x <<< (y &&& 31)) :: st) S mi Q) : MW X fr R kc sl pc L (.int y :: .int x :: st) S mi Q :=
  fun p l e s m args below meth c H locs ls C hS hP hL => lv_ishl C.1 C.2.1 hd (k p l e s m args below meth c H locs ls C hS hP hL)
theorem mw_ishr {x y : Int32} (hd : decode fr.2.1 pc = .ok (.ishr, 1))  (k : MW X fr R kc sl (pc + 1) L (.int (x >>> (y &&& 31)) :: st) S mi Q) : MW X fr R kc sl pc L (.int y :: .int x :: st) S mi Q :=
  fun p l e s m args below meth c H locs ls C hS hP hL => lv_ishr C.1 C.2.1 hd (k p l e s m args below meth c H locs ls C hS hP hL)
theorem mw_iushr {x y : Int32} (hd : decode fr.2.1 pc = .ok (.iushr, 1))  (k : MW X fr R kc sl (pc + 1) L (.int (jus x y) :: st) S mi Q) : MW X fr R kc sl pc L (.int y :: .int x :: st) S mi Q :=
  fun p l e s m args below meth c H locs ls C hS hP hL => lv_iushr C.1 C.2.1 hd rfl (k p l e s m args below meth c H locs ls C hS hP hL)
theorem mw_idiv {x y : Int32} (hd : decode fr.2.1 pc = .ok (.idiv, 1)) (hy : ¬ y = 0) (k : MW X fr R kc sl (pc + 1) L (.int (x / y) :: st) S mi Q) : MW X fr R kc sl pc L (.int y :: .int x :: st) S mi Q :=
  fun p l e s m args below meth c H locs ls C hS hP hL => lv_idiv C.1 C.2.1 hd hy (k p l e s m args below meth c H locs ls C hS hP hL)
theorem mw_irem {x y : Int32} (hd : decode fr.2.1 pc = .ok (.irem, 1)) (hy : ¬ y = 0) (k : MW X fr R kc sl (pc + 1) L (.int (jr x y) :: st) S mi Q) : MW X fr R kc sl pc L (.int y :: .int x :: st) S mi Q :=
  fun p l e s m args below meth c H locs ls C hS hP hL => lv_irem C.1 C.2.1 hd hy (k p l e s m args below meth c H locs ls C hS hP hL)
theorem mw_ineg {x : Int32} (hd : decode fr.2.1 pc = .ok (.ineg, 1))  (k : MW X fr R kc sl (pc + 1) L (.int (-x) :: st) S mi Q) : MW X fr R kc sl pc L (.int x :: st) S mi Q :=
  fun p l e s m args below meth c H locs ls C hS hP hL => lv_ineg C.1 C.2.1 hd (k p l e s m args below meth c H locs ls C hS hP hL)
theorem mw_i2s {x : Int32} (hd : decode fr.2.1 pc = .ok (.i2s, 1))  (k : MW X fr R kc sl (pc + 1) L (.int x.toInt16.toInt32 :: st) S mi Q) : MW X fr R kc sl pc L (.int x :: st) S mi Q :=
  fun p l e s m args below meth c H locs ls C hS hP hL => lv_i2s C.1 C.2.1 hd rfl (k p l e s m args below meth c H locs ls C hS hP hL)
theorem mw_i2c {x : Int32} (hd : decode fr.2.1 pc = .ok (.i2c, 1))  (k : MW X fr R kc sl (pc + 1) L (.int (x.toUInt32 % 65536).toInt32 :: st) S mi Q) : MW X fr R kc sl pc L (.int x :: st) S mi Q :=
  fun p l e s m args below meth c H locs ls C hS hP hL => lv_i2c C.1 C.2.1 hd rfl (k p l e s m args below meth c H locs ls C hS hP hL)
theorem mw_dup {v : Value} (hd : decode fr.2.1 pc = .ok (.dup, 1)) (hv : v.category = 1) (k : MW X fr R kc sl (pc + 1) L (v :: v :: st) S mi Q) : MW X fr R kc sl pc L (v :: st) S mi Q :=
  fun p l e s m args below meth c H locs ls C hS hP hL => lv_dup C.1 C.2.1 hd hv (k p l e s m args below meth c H locs ls C hS hP hL)
theorem mw_pop {v : Value} (hd : decode fr.2.1 pc = .ok (.pop, 1)) (hv : v.category = 1) (k : MW X fr R kc sl (pc + 1) L (st) S mi Q) : MW X fr R kc sl pc L (v :: st) S mi Q :=
  fun p l e s m args below meth c H locs ls C hS hP hL => lv_pop C.1 C.2.1 hd hv (k p l e s m args below meth c H locs ls C hS hP hL)
theorem mw_dup2 {v w : Value} (hd : decode fr.2.1 pc = .ok (.dup2, 1)) (hv : v.category = 1) (hw : w.category = 1) (k : MW X fr R kc sl (pc + 1) L (v :: w :: v :: w :: st) S mi Q) : MW X fr R kc sl pc L (v :: w :: st) S mi Q :=
  fun p l e s m args below meth c H locs ls C hS hP hL => lv_dup2_11 C.1 C.2.1 hd hv hw (k p l e s m args below meth c H locs ls C hS hP hL)
theorem mw_if_eq {x : Int32} {off : Int} {tgt : Nat} (hd : decode fr.2.1 pc = .ok (.ifCond .eq off, 3)) (ht : (pc : Int) + off = (tgt : Int)) (kt : x = 0 → MW X fr R kc sl tgt L st S mi Q) (kf : ¬ x = 0 → MW X fr R kc sl (pc + 3) L st S mi Q) : MW X fr R kc sl pc L (.int x :: st) S mi Q :=
  fun p l e s m args below meth c H locs ls C hS hP hL => lv_if_eq C.1 C.2.1 hd ht (fun q => kt q p l e s m args below meth c H locs ls C hS hP hL) (fun q => kf q p l e s m args below meth c H locs ls C hS hP hL)
theorem mw_icmp_eq {x y : Int32} {off : Int} {tgt : Nat} (hd : decode fr.2.1 pc = .ok (.if_icmp .eq off, 3)) (ht : (pc : Int) + off = (tgt : Int)) (kt : x = y → MW X fr R kc sl tgt L st S mi Q) (kf : ¬ x = y → MW X fr R kc sl (pc + 3) L st S mi Q) : MW X fr R kc sl pc L (.int y :: .int x :: st) S mi Q :=
  fun p l e s m args below meth c H locs ls C hS hP hL => lv_icmp_eq C.1 C.2.1 hd ht (fun q => kt q p l e s m args below meth c H locs ls C hS hP hL) (fun q => kf q p l e s m args below meth c H locs ls C hS hP hL)
theorem mw_if_ne {x : Int32} {off : Int} {tgt : Nat} (hd : decode fr.2.1 pc = .ok (.ifCond .ne off, 3)) (ht : (pc : Int) + off = (tgt : Int)) (kt : ¬ x = 0 → MW X fr R kc sl tgt L st S mi Q) (kf : x = 0 → MW X fr R kc sl (pc + 3) L st S mi Q) : MW X fr R kc sl pc L (.int x :: st) S mi Q :=
  fun p l e s m args below meth c H locs ls C hS hP hL => lv_if_ne C.1 C.2.1 hd ht (fun q => kt q p l e s m args below meth c H locs ls C hS hP hL) (fun q => kf q p l e s m args below meth c H locs ls C hS hP hL)
theorem mw_icmp_ne {x y : Int32} {off : Int} {tgt : Nat} (hd : decode fr.2.1 pc = .ok (.if_icmp .ne off, 3)) (ht : (pc : Int) + off = (tgt : Int)) (kt : ¬ x = y → MW X fr R kc sl tgt L st S mi Q) (kf : x = y → MW X fr R kc sl (pc + 3) L st S mi Q) : MW X fr R kc sl pc L (.int y :: .int x :: st) S mi Q :=
  fun p l e s m args below meth c H locs ls C hS hP hL => lv_icmp_ne C.1 C.2.1 hd ht (fun q => kt q p l e s m args below meth c H locs ls C hS hP hL) (fun q => kf q p l e s m args below meth c H locs ls C hS hP hL)
theorem mw_if_lt {x : Int32} {off : Int} {tgt : Nat} (hd : decode fr.2.1 pc = .ok (.ifCond .lt off, 3)) (ht : (pc : Int) + off = (tgt : Int)) (kt : x < 0 → MW X fr R kc sl tgt L st S mi Q) (kf : ¬ x < 0 → MW X fr R kc sl (pc + 3) L st S mi Q) : MW X fr R kc sl pc L (.int x :: st) S mi Q :=
  fun p l e s m args below meth c H locs ls C hS hP hL => lv_if_lt C.1 C.2.1 hd ht (fun q => kt q p l e s m args below meth c H locs ls C hS hP hL) (fun q => kf q p l e s m args below meth c H locs ls C hS hP hL)
theorem mw_icmp_lt {x y : Int32} {off : Int} {tgt : Nat} (hd : decode fr.2.1 pc = .ok (.if_icmp .lt off, 3)) (ht : (pc : Int) + off = (tgt : Int)) (kt : x < y → MW X fr R kc sl tgt L st S mi Q) (kf : ¬ x < y → MW X fr R kc sl (pc + 3) L st S mi Q) : MW X fr R kc sl pc L (.int y :: .int x :: st) S mi Q :=
  fun p l e s m args below meth c H locs ls C hS hP hL => lv_icmp_lt C.1 C.2.1 hd ht (fun q => kt q p l e s m args below meth c H locs ls C hS hP hL) (fun q => kf q p l e s m args below meth c H locs ls C hS hP hL)
theorem mw_if_ge {x : Int32} {off : Int} {tgt : Nat} (hd : decode fr.2.1 pc = .ok (.ifCond .ge off, 3)) (ht : (pc : Int) + off = (tgt : Int)) (kt : 0 ≤ x → MW X fr R kc sl tgt L st S mi Q) (kf : ¬ 0 ≤ x → MW X fr R kc sl (pc + 3) L st S mi Q) : MW X fr R kc sl pc L (.int x :: st) S mi Q :=
  fun p l e s m args below meth c H locs ls C hS hP hL => lv_if_ge C.1 C.2.1 hd ht (fun q => kt q p l e s m args below meth c H locs ls C hS hP hL) (fun q => kf q p l e s m args below meth c H locs ls C hS hP hL)
theorem mw_icmp_ge {x y : Int32} {off : Int} {tgt : Nat} (hd : decode fr.2.1 pc = .ok (.if_icmp .ge off, 3)) (ht : (pc : Int) + off = (tgt : Int)) (kt : y ≤ x → MW X fr R kc sl tgt L st S mi Q) (kf : ¬ y ≤ x → MW X fr R kc sl (pc + 3) L st S mi Q) : MW X fr R kc sl pc L (.int y :: .int x :: st) S mi Q :=
  fun p l e s m args below meth c H locs ls C hS hP hL => lv_icmp_ge C.1 C.2.1 hd ht (fun q => kt q p l e s m args below meth c H locs ls C hS hP hL) (fun q => kf q p l e s m args below meth c H locs ls C hS hP hL)
theorem mw_if_gt {x : Int32} {off : Int} {tgt : Nat} (hd : decode fr.2.1 pc = .ok (.ifCond .gt off, 3)) (ht : (pc : Int) + off = (tgt : Int)) (kt : 0 < x → MW X fr R kc sl tgt L st S mi Q) (kf : ¬ 0 < x → MW X fr R kc sl (pc + 3) L st S mi Q) : MW X fr R kc sl pc L (.int x :: st) S mi Q :=
  fun p l e s m args below meth c H locs ls C hS hP hL => lv_if_gt C.1 C.2.1 hd ht (fun q => kt q p l e s m args below meth c H locs ls C hS hP hL) (fun q => kf q p l e s m args below meth c H locs ls C hS hP hL)
theorem mw_icmp_gt {x y : Int32} {off : Int} {tgt : Nat} (hd : decode fr.2.1 pc = .ok (.if_icmp .gt off, 3)) (ht : (pc : Int) + off = (tgt : Int)) (kt : y < x → MW X fr R kc sl tgt L st S mi Q) (kf : ¬ y < x → MW X fr R kc sl (pc + 3) L st S mi Q) : MW X fr R kc sl pc L (.int y :: .int x :: st) S mi Q :=
  fun p l e s m args below meth c H locs ls C hS hP hL => lv_icmp_gt C.1 C.2.1 hd ht (fun q => kt q p l e s m args below meth c H locs ls C hS hP hL) (fun q => kf q p l e s m args below meth c H locs ls C hS hP hL)
theorem mw_if_le {x : Int32} {off : Int} {tgt : Nat} (hd : decode fr.2.1 pc = .ok (.ifCond .le off, 3)) (ht : (pc : Int) + off = (tgt : Int)) (kt : x ≤ 0 → MW X fr R kc sl tgt L st S mi Q) (kf : ¬ x ≤ 0 → MW X fr R kc sl (pc + 3) L st S mi Q) : MW X fr R kc sl pc L (.int x :: st) S mi Q :=
  fun p l e s m args below meth c H locs ls C hS hP hL => lv_if_le C.1 C.2.1 hd ht (fun q => kt q p l e s m args below meth c H locs ls C hS hP hL) (fun q => kf q p l e s m args below meth c H locs ls C hS hP hL)
theorem mw_icmp_le {x y : Int32} {off : Int} {tgt : Nat} (hd : decode fr.2.1 pc = .ok (.if_icmp .le off, 3)) (ht : (pc : Int) + off = (tgt : Int)) (kt : x ≤ y → MW X fr R kc sl tgt L st S mi Q) (kf : ¬ x ≤ y → MW X fr R kc sl (pc + 3) L st S mi Q) : MW X fr R kc sl pc L (.int y :: .int x :: st) S mi Q :=
  fun p l e s m args below meth c H locs ls C hS hP hL => lv_icmp_le C.1 C.2.1 hd ht (fun q => kt q p l e s m args below meth c H locs ls C hS hP hL) (fun q => kf q p l e s m args below meth c H locs ls C hS hP hL)
theorem mw_goto {off : Int} {tgt : Nat} (hd : decode fr.2.1 pc = .ok (.goto off, 3)) (ht : (pc : Int) + off = (tgt : Int)) (k : MW X fr R kc sl tgt L st S mi Q) : MW X fr R kc sl pc L st S mi Q :=
  fun p l e s m args below meth c H locs ls C hS hP hL => lv_goto C.1 C.2.1 hd ht (k p l e s m args below meth c H locs ls C hS hP hL)
theorem mw_ifnonnull {x : Nat} {off : Int} {tgt : Nat} (hd : decode fr.2.1 pc = .ok (.ifnonnull off, 3)) (ht : (pc : Int) + off = (tgt : Int)) (k : MW X fr R kc sl tgt L st S mi Q) : MW X fr R kc sl pc L (.ref x :: st) S mi Q :=
  fun p l e s m args below meth c H locs ls C hS hP hL => lv_ifnonnull C.1 C.2.1 hd ht (k p l e s m args below meth c H locs ls C hS hP hL)
theorem mw_ifnonnullN {off : Int} (hd : decode fr.2.1 pc = .ok (.ifnonnull off, 3)) (k : MW X fr R kc sl (pc + 3) L st S mi Q) : MW X fr R kc sl pc L (.null :: st) S mi Q :=
  fun p l e s m args below meth c H locs ls C hS hP hL => lv_ifnonnullN C.1 C.2.1 hd (k p l e s m args below meth c H locs ls C hS hP hL)
/-- a switch by its table: the place that a number goes to -/
def tsTo (pc : Nat) (d lo hi : Int) (offs : Array Int) (x : Int32) : Int := if x.toInt < lo ∨ hi < x.toInt then pc + d else pc + (offs[(x.toInt - lo).toNat]?).getD 0
theorem mw_tsw {d lo hi : Int} {offs : Array Int} {len : Nat} {x : Int32} (hd : decode fr.2.1 pc = .ok (.tableswitch d lo hi offs, len)) (hsz : offs.size = (hi - lo + 1).toNat) (tgt : Nat) (ht : tsTo pc d lo hi offs x = (tgt : Int)) (k : MW X fr R kc sl tgt L st S mi Q) : MW X fr R kc sl pc L (.int x :: st) S mi Q := by
  intro p l e s m args below meth c H locs ls C hS hP hL
  unfold tsTo at ht
  by_cases h : x.toInt < lo ∨ hi < x.toInt
  · rw [if_pos h] at ht
    exact lv_tableOut C.1 C.2.1 hd h ht (k p l e s m args below meth c H locs ls C hS hP hL)
  · rw [if_neg h] at ht
    have h1 : ¬ x.toInt < lo := fun q => h (Or.inl q)
    have h2 : ¬ hi < x.toInt := fun q => h (Or.inr q)
    have hlt : (x.toInt - lo).toNat < offs.size := by rw [hsz]; omega
    rw [Array.getElem?_eq_getElem hlt, Option.getD_some] at ht
    exact lv_tableIn C.1 C.2.1 hd h1 h2 (Array.getElem?_eq_getElem hlt) ht (k p l e s m args below meth c H locs ls C hS hP hL)
theorem mw_lsw {d : Int} {ps : Array (Int × Int)} {len : Nat} {x : Int32} (hd : decode fr.2.1 pc = .ok (.lookupswitch d ps, len)) (hp : (ps.toList.zip (ps.toList.drop 1)).all (fun (a, next) => a.1 < next.1) = true) (tgt : Nat) (ht : (pc : Int) + Op.lookupswitch.offset ps.toList d x.toInt = (tgt : Int)) (k : MW X fr R kc sl tgt L st S mi Q) : MW X fr R kc sl pc L (.int x :: st) S mi Q :=
  fun p l e s m args below meth c H locs ls C hS hP hL => lv_lookup C.1 C.2.1 hd hp rfl ht (k p l e s m args below meth c H locs ls C hS hP hL)
theorem mw_iret {mc ms : Nat} {P : Pt3} {v : Int32} (hd : decode fr.2.1 pc = .ok (.ireturn, 1)) (hr : fr.2.2.2 = some .int) (h1 : kc ≤ mc) (h2 : sl ≤ ms) (hp : P (some (.int v)) S mi) : MW X fr R kc sl pc L [.int v] S mi (mQ X mc ms P) :=
  fun p l e s m args below meth c H locs ls C hS hP hL => W.widen h1 h2 (W.iret (v := v) C.1 C.2.1 (C.2.2.2.2.2.1.trans hr) (fun t ht hW => ⟨⟨_, S, mi, rfl, hp, by rw [ht]; exact hP⟩, hS.F ht⟩) hS.2.2 hd C.2.2.2.2.2.2.1)
theorem mw_zret {mc ms : Nat} {P : Pt3} {v : Int32} {ty : FieldType} (hd : decode fr.2.1 pc = .ok (.ireturn, 1)) (hr : fr.2.2.2 = some ty) (hn : narrow ty (.int v) = .int v) (h1 : kc ≤ mc) (h2 : sl ≤ ms) (hp : P (some (.int v)) S mi) : MW X fr R kc sl pc L [.int v] S mi (mQ X mc ms P) :=
  fun p l e s m args below meth c H locs ls C hS hP hL => W.widen h1 h2 (W.zret (v := v) C.1 C.2.1 (C.2.2.2.2.2.1.trans hr) hn (fun t ht hW => ⟨⟨_, S, mi, rfl, hp, by rw [ht]; exact hP⟩, hS.F ht⟩) hS.2.2 hd C.2.2.2.2.2.2.1)
theorem mw_vret {mc ms : Nat} {P : Pt3} (hd : decode fr.2.1 pc = .ok (.return_, 1)) (hr : fr.2.2.2 = none) (h1 : kc ≤ mc) (h2 : sl ≤ ms) (hp : P none S mi) : MW X fr R kc sl pc L [] S mi (mQ X mc ms P) :=
  fun p l e s m args below meth c H locs ls C hS hP hL => W.widen h1 h2 (W.vret C.1 C.2.1 (C.2.2.2.2.2.1.trans hr) (fun t ht hW => ⟨⟨_, S, mi, rfl, hp, by rw [ht]; exact hP⟩, hS.F ht⟩) hS.2.2 hd C.2.2.2.2.2.2.1)
theorem mw_aret {mc ms : Nat} {P : Pt3} {v : Value} {rt : FieldType} (hd : decode fr.2.1 pc = .ok (.areturn, 1)) (hr : fr.2.2.2 = some rt) (hrt : (∃ n, rt = .object n) ∨ ∃ t, rt = .array t) (hv : v = .null ∨ ∃ a, v = .ref a) (h1 : kc ≤ mc) (h2 : sl ≤ ms) (hp : P (some v) S mi) : MW X fr R kc sl pc L [v] S mi (mQ X mc ms P) :=
  fun p l e s m args below meth c H locs ls C hS hP hL => W.widen h1 h2 (W.aret (v := v) C.1 C.2.1 (C.2.2.2.2.2.1.trans hr) hrt hv (fun t ht hW => ⟨⟨_, S, mi, rfl, hp, by rw [ht]; exact hP⟩, hS.F ht⟩) hS.2.2 hd C.2.2.2.2.2.2.1)
end MWR
end
section
/-- own's entry idx is field k of class ci of vwCl -/
def FL (own : String) (idx ci k : Nat) : Prop := ∃ q : vw_C, vwCl[ci]? = some q ∧ k < q.2.2 ∧ (q.2.1 k).1 = q.1 ∧ Cond.fieldLink own idx q.1 (q.2.1 k).2.1 (q.2.1 k).2.2.1 ∈ TW
/-- its finality and its type -/
def FT (ci k : Nat) (fin : Bool) (ty : FieldType) : Prop := ∀ q : vw_C, vwCl[ci]? = some q → (q.2.1 k).2.2.2 = fin ∧ parseFieldDescriptor (q.2.1 k).2.2.1 = some ty
/-- what the tables say of class ci -/
def CI (ci : Nat) (q : vw_C) : Prop := (∀ w ∈ u_ws q.1 q.2.1 q.2.2, w ∈ TW) ∧ ci < 8 ∧ nF ci = q.2.2 ∧ (∃ ty : Nat → FieldType, (∀ k, k < q.2.2 → parseFieldDescriptor (q.2.1 k).2.2.1 = some (ty k)) ∧ (∀ a, a < q.2.2 → ∀ b, b < q.2.2 → a ≠ b → (q.2.1 a).2.1 ≠ (q.2.1 b).2.1) ∧ ∀ k, k < q.2.2 → defaultValue (ty k) = if isR ci k then .null else .int 0) ∧ Cond.instantiable q.1 q.2.2 ∈ TW ∧ Cond.initialized q.1 ∈ TW
theorem ci_w0 : u_ws RX0 TX0 5 = ([111, 113, 115, 117, 119] : List Nat).filterMap (fun i => lw_tbl[i]?) := by decide +kernel
theorem ci_g0 : (u_ws RX0 TX0 5).all goodWord = true := by decide +kernel
theorem ci_d0 : ∀ k, k < 5 → defaultValue (tyX0 k) = if isR 0 k then .null else .int 0 := by decide +kernel
theorem ci_0 : CI 0 (RX0, TX0, 5) := ⟨fun w hw => by
    have hg := List.all_eq_true.mp ci_g0 w hw
    have hw2 : w ∈ u_ws RX0 TX0 5 := hw
    rw [ci_w0] at hw2
    obtain ⟨i, -, hi⟩ := List.mem_filterMap.mp hw2
    exact TW_of i hi hg, by decide, rfl, ⟨tyX0, tyX0_ok, nmX0, ci_d0⟩, TW_of 91 (by decide +kernel) (by decide +kernel), TW_of 59 (by decide +kernel) (by decide +kernel)⟩
theorem ci_w1 : u_ws RX1 TX1 3 = ([250, 252, 254] : List Nat).filterMap (fun i => lw_tbl[i]?) := by decide +kernel
theorem ci_g1 : (u_ws RX1 TX1 3).all goodWord = true := by decide +kernel
theorem ci_d1 : ∀ k, k < 3 → defaultValue (tyX1 k) = if isR 1 k then .null else .int 0 := by decide +kernel
theorem ci_1 : CI 1 (RX1, TX1, 3) := ⟨fun w hw => by
    have hg := List.all_eq_true.mp ci_g1 w hw
    have hw2 : w ∈ u_ws RX1 TX1 3 := hw
    rw [ci_w1] at hw2
    obtain ⟨i, -, hi⟩ := List.mem_filterMap.mp hw2
    exact TW_of i hi hg, by decide, rfl, ⟨tyX1, tyX1_ok, nmX1, ci_d1⟩, TW_of 239 (by decide +kernel) (by decide +kernel), TW_of 61 (by decide +kernel) (by decide +kernel)⟩
theorem ci_w2 : u_ws RX2 TX2 4 = ([272, 274, 276, 278] : List Nat).filterMap (fun i => lw_tbl[i]?) := by decide +kernel
theorem ci_g2 : (u_ws RX2 TX2 4).all goodWord = true := by decide +kernel
theorem ci_d2 : ∀ k, k < 4 → defaultValue (tyX2 k) = if isR 2 k then .null else .int 0 := by decide +kernel
theorem ci_2 : CI 2 (RX2, TX2, 4) := ⟨fun w hw => by
    have hg := List.all_eq_true.mp ci_g2 w hw
    have hw2 : w ∈ u_ws RX2 TX2 4 := hw
    rw [ci_w2] at hw2
    obtain ⟨i, -, hi⟩ := List.mem_filterMap.mp hw2
    exact TW_of i hi hg, by decide, rfl, ⟨tyX2, tyX2_ok, nmX2, ci_d2⟩, TW_of 257 (by decide +kernel) (by decide +kernel), TW_of 62 (by decide +kernel) (by decide +kernel)⟩
theorem ci_w3 : u_ws RX3 TX3 11 = ([212, 214, 216, 218, 220, 222, 224, 226, 228, 230, 232] : List Nat).filterMap (fun i => lw_tbl[i]?) := by decide +kernel
theorem ci_g3 : (u_ws RX3 TX3 11).all goodWord = true := by decide +kernel
theorem ci_d3 : ∀ k, k < 11 → defaultValue (tyX3 k) = if isR 3 k then .null else .int 0 := by decide +kernel
theorem ci_3 : CI 3 (RX3, TX3, 11) := ⟨fun w hw => by
    have hg := List.all_eq_true.mp ci_g3 w hw
    have hw2 : w ∈ u_ws RX3 TX3 11 := hw
    rw [ci_w3] at hw2
    obtain ⟨i, -, hi⟩ := List.mem_filterMap.mp hw2
    exact TW_of i hi hg, by decide, rfl, ⟨tyX3, tyX3_ok, nmX3, ci_d3⟩, TW_of 194 (by decide +kernel) (by decide +kernel), TW_of 60 (by decide +kernel) (by decide +kernel)⟩
theorem ci_w4 : u_ws RX4 TX4 3 = ([798, 800, 802] : List Nat).filterMap (fun i => lw_tbl[i]?) := by decide +kernel
theorem ci_g4 : (u_ws RX4 TX4 3).all goodWord = true := by decide +kernel
theorem ci_d4 : ∀ k, k < 3 → defaultValue (tyX4 k) = if isR 4 k then .null else .int 0 := by decide +kernel
theorem ci_4 : CI 4 (RX4, TX4, 3) := ⟨fun w hw => by
    have hg := List.all_eq_true.mp ci_g4 w hw
    have hw2 : w ∈ u_ws RX4 TX4 3 := hw
    rw [ci_w4] at hw2
    obtain ⟨i, -, hi⟩ := List.mem_filterMap.mp hw2
    exact TW_of i hi hg, by decide, rfl, ⟨tyX4, tyX4_ok, nmX4, ci_d4⟩, TW_of 786 (by decide +kernel) (by decide +kernel), TW_of 66 (by decide +kernel) (by decide +kernel)⟩
theorem ci_w5 : u_ws RX5 TX5 18 = ([156, 158, 160, 162, 164, 166, 168, 170, 172, 174, 176, 178, 180, 182, 184, 186, 188, 190] : List Nat).filterMap (fun i => lw_tbl[i]?) := by decide +kernel
theorem ci_g5 : (u_ws RX5 TX5 18).all goodWord = true := by decide +kernel
theorem ci_d5 : ∀ k, k < 18 → defaultValue (tyX5 k) = if isR 5 k then .null else .int 0 := by decide +kernel
theorem ci_5 : CI 5 (RX5, TX5, 18) := ⟨fun w hw => by
    have hg := List.all_eq_true.mp ci_g5 w hw
    have hw2 : w ∈ u_ws RX5 TX5 18 := hw
    rw [ci_w5] at hw2
    obtain ⟨i, -, hi⟩ := List.mem_filterMap.mp hw2
    exact TW_of i hi hg, by decide, rfl, ⟨tyX5, tyX5_ok, nmX5, ci_d5⟩, TW_of 82 (by decide +kernel) (by decide +kernel), TW_of 58 (by decide +kernel) (by decide +kernel)⟩
theorem ci_w6 : u_ws RX6 TX6 10 = ([291, 293, 295, 297, 299, 301, 303, 305, 307, 309] : List Nat).filterMap (fun i => lw_tbl[i]?) := by decide +kernel
theorem ci_g6 : (u_ws RX6 TX6 10).all goodWord = true := by decide +kernel
theorem ci_d6 : ∀ k, k < 10 → defaultValue (tyX6 k) = if isR 6 k then .null else .int 0 := by decide +kernel
theorem ci_6 : CI 6 (RX6, TX6, 10) := ⟨fun w hw => by
    have hg := List.all_eq_true.mp ci_g6 w hw
    have hw2 : w ∈ u_ws RX6 TX6 10 := hw
    rw [ci_w6] at hw2
    obtain ⟨i, -, hi⟩ := List.mem_filterMap.mp hw2
    exact TW_of i hi hg, by decide, rfl, ⟨tyX6, tyX6_ok, nmX6, ci_d6⟩, TW_of 74 (by decide +kernel) (by decide +kernel), TW_of 57 (by decide +kernel) (by decide +kernel)⟩
theorem ci_w7 : u_ws RX7 TX7 34 = ([939, 941, 943, 945, 947, 949, 951, 953, 955, 957, 959, 961, 963, 965, 967, 969, 971, 973, 975, 977, 979, 981, 983, 985, 987, 989, 991, 993, 995, 997, 999, 1001, 1003, 1005] : List Nat).filterMap (fun i => lw_tbl[i]?) := by decide +kernel
theorem ci_g7 : (u_ws RX7 TX7 34).all goodWord = true := by decide +kernel
theorem ci_d7 : ∀ k, k < 34 → defaultValue (tyX7 k) = if isR 7 k then .null else .int 0 := by decide +kernel
theorem ci_7 : CI 7 (RX7, TX7, 34) := ⟨fun w hw => by
    have hg := List.all_eq_true.mp ci_g7 w hw
    have hw2 : w ∈ u_ws RX7 TX7 34 := hw
    rw [ci_w7] at hw2
    obtain ⟨i, -, hi⟩ := List.mem_filterMap.mp hw2
    exact TW_of i hi hg, by decide, rfl, ⟨tyX7, tyX7_ok, nmX7, ci_d7⟩, TW_of 900 (by decide +kernel) (by decide +kernel), TW_of 63 (by decide +kernel) (by decide +kernel)⟩
theorem ci_all : ∀ (ci : Nat) (q : vw_C), vwCl[ci]? = some q → CI ci q := by
  intro ci q h
  match ci, h with
  | 0, h => cases h; exact ci_0
  | 1, h => cases h; exact ci_1
  | 2, h => cases h; exact ci_2
  | 3, h => cases h; exact ci_3
  | 4, h => cases h; exact ci_4
  | 5, h => cases h; exact ci_5
  | 6, h => cases h; exact ci_6
  | 7, h => cases h; exact ci_7
  | n + 8, h => simp [vwCl] at h
section MWH
variable {X : Xb} {fr : Fr} {R : Room} {kc sl pc : Nat} {L : List (Option Value)} {st : List Value} {S : Sg} {mi : Mem} {Q : Qt}
theorem mw_getv {idx ci k i z : Nat} (hd : decode fr.2.1 pc = .ok (.getfield idx, 3)) (hf : FL fr.1.cls idx ci k) (hk : Kd S i ci z) (kk : MW X fr R kc sl (pc + 3) L ((if isR ci k then va_rf ((S.2.2 i k).map (X.1 + ·)) else .int (mi i k)) :: st) S mi Q) : MW X fr R kc sl pc L (.ref (X.1 + i) :: st) S mi Q := by
  intro p l e s m args below meth c H locs ls C hS hP hL
  obtain ⟨q, h1, h2, h3, h4⟩ := hf
  obtain ⟨g1, g2, g3, -⟩ := ci_all ci q h1
  have hl := C.2.2.2.2.1 _ h4
  exact va_get (ci := ci) C.1 C.2.1 C.2.2.2.2.1 g1 C.2.2.2.1 C.2.2.2.2.2.2.2.2.2.1 hP.2 i (by rw [ws_at hk.1, cell_obj hk g2]) h1 k h2 hl (fun x hx => by rw [← h3]; exact hx) (flds_at (by rw [g3]; exact h2)) hd (kk p l e s m args below meth c H locs ls C hS hP hL)
theorem mw_geti {idx ci k i z : Nat} (hd : decode fr.2.1 pc = .ok (.getfield idx, 3)) (hf : FL fr.1.cls idx ci k) (hr : isR ci k = false) (hk : Kd S i ci z) (kk : MW X fr R kc sl (pc + 3) L (.int (mi i k) :: st) S mi Q) : MW X fr R kc sl pc L (.ref (X.1 + i) :: st) S mi Q :=
  mw_getv hd hf hk (by rw [hr]; exact kk)
theorem mw_getr {idx ci k i z j : Nat} (hd : decode fr.2.1 pc = .ok (.getfield idx, 3)) (hf : FL fr.1.cls idx ci k) (hr : isR ci k = true) (hk : Kd S i ci z) (hj : S.2.2 i k = some j) (kk : MW X fr R kc sl (pc + 3) L (.ref (X.1 + j) :: st) S mi Q) : MW X fr R kc sl pc L (.ref (X.1 + i) :: st) S mi Q :=
  mw_getv hd hf hk (by rw [hr, hj]; exact kk)
theorem Wp_put {X : Xb} {S S' : Sg} {mi mi' : Mem} {i : Nat} {H H1 : Heap} (hP : Wp X S mi H) (hn : S'.1 = S.1) (ho : ∀ j, j ≠ i → cellE X S' mi' j = cellE X S mi j) (z : H1.size = H.size) (oq : ∀ q : Nat, q ≠ X.1 + i → H1[q]? = H[q]?) (hnew : va_at X.2.1 vwCl (X.1 + i, cellE X S' mi' i) H1) : Wp X S' mi' H1 := by
  refine ⟨by rw [z, hP.1, hn], fun k q hk => ?_⟩
  by_cases hl : k < S.1
  · rw [ws_at (by omega)] at hk
    cases hk
    by_cases hki : k = i
    · subst hki; exact hnew
    · rw [ho k hki]
      exact (hP.2 k _ (ws_at hl)).kept (oq _ (by show X.1 + k ≠ X.1 + i; omega))
  · rw [List.getElem?_eq_none (by simp [wsOf]; omega)] at hk; cases hk
theorem mw_puti {idx ci k i z : Nat} {v : Int32} {ty : FieldType} (hd : decode fr.2.1 pc = .ok (.putfield idx, 3)) (hf : FL fr.1.cls idx ci k) (ht : FT ci k false ty) (hr : isR ci k = false) (hnar : narrow ty (.int v) = .int v) (hfit : fits ty (.int v) = true) (hk : Kd S i ci z) (kk : MW X fr R kc sl (pc + 3) L st S (m_up mi i k v) Q) : MW X fr R kc sl pc L (.int v :: .ref (X.1 + i) :: st) S mi Q := by
  intro p l e s m args below meth c H locs ls C hS hP hL
  obtain ⟨q, h1, h2, h3, h4⟩ := hf
  obtain ⟨g1, g2, g3, ⟨ty0, t1, t2, -⟩, -⟩ := ci_all ci q h1
  have hts := C.2.2.2.2.1
  have hlk := hts _ h4
  have hK := C.2.2.2.2.2.2.2.2.2.1
  have hap := va_apart (own := fr.1.cls) hts g1 ty0 t1 t2 hK h1
  have hat := hP.2 i _ (ws_at hk.1)
  rw [cell_obj hk g2] at hat
  obtain ⟨r, hr1, cell, q1, q2, q3, q4⟩ := hat
  have hrq : r = q := Option.some.inj (hr1.symm.trans h1)
  subst hrq
  obtain ⟨hSl, hfc, kC, hkC, hkind⟩ := hK.1 ci _ h1
  obtain ⟨cf, kf, fi, f, hi, hsl⟩ := hSl k h2
  have hlay := hts _ (g1 _ (u_in_lay h2))
  unfold u_lay at hlay
  rw [if_neg (by rw [(ht r h1).1]; decide)] at hlay
  have hst := (u_facts hfc hkC (u_lays hts g1 h2) hi).1
  have h6 := u_store hfc hkC hkind hlay hi (ht r h1).2 hnar hfit
  refine W.putK C.1 C.2.1 (f := f) ⟨C.2.2.2.1, hlk, ⟨_, _, _, by rw [← h3]; exact hi⟩, hst⟩ (by rw [q2]; exact h6) q1 q3 (by rw [hsl]; exact k2_hasslot (q4 k h2)) rfl rfl hd fun H' e1 e2 e3 => ?_
  rw [hsl] at e1 ⊢
  refine kk p l e s m args below meth c H' _ ls C (hS.put e2 e3 (Nat.le_add_right _ _)) (Wp_put (i := i) hP rfl (fun j hj => cell_eq rfl (m_up_ne hj) rfl) e2 e3 ?_) hL
  rw [cell_obj hk g2, ← flds_set (f := mi i) (f' := m_up mi i k v i) (g := S.2.2 i) (g' := S.2.2 i) (k := k) (v := .int v) (by rw [hr]; simp [m_up]) (fun j hj => ⟨by simp [m_up, hj], rfl⟩)]
  exact ⟨_, h1, t_OB.to (V := updV (vp_V (flds X.1 ci (mi i) (S.2.2 i))) k (.int v)) ⟨_, e1, q2, q3, t_set q4 hap h2 (.int v)⟩ (fun j _ => vp_updV_set (by rw [flds_len, g3]; exact h2) (.int v) j)⟩
/-- a final field, in its own constructor: an int or a reference -/
theorem mw_putF {idx ci k i z : Nat} {v : Value} {ty : FieldType} {mi' : Mem} {mr' : Rfm} (hd : decode fr.2.1 pc = .ok (.putfield idx, 3)) (hf : FL fr.1.cls idx ci k) (ht : FT ci k true ty) (hin : fr.1.name = "<init>") (hown : ∀ q : vw_C, vwCl[ci]? = some q → q.1 = fr.1.cls) (hnar : narrow ty v = v) (hfit : fits ty v = true) (hk : Kd S i ci z)
    (hv : (if isR ci k then va_rf ((mr' i k).map (X.1 + ·)) else .int (mi' i k)) = v) (hm : ∀ a b, ¬ (a = i ∧ b = k) → mi' a b = mi a b ∧ mr' a b = S.2.2 a b) (kk : MW X fr R kc sl (pc + 3) L st (S.1, S.2.1, mr') mi' Q) : MW X fr R kc sl pc L (v :: .ref (X.1 + i) :: st) S mi Q := by
  intro p l e s m args below meth c H locs ls C hS hP hL
  obtain ⟨q, h1, h2, h3, h4⟩ := hf
  obtain ⟨g1, g2, g3, ⟨ty0, t1, t2, -⟩, -⟩ := ci_all ci q h1
  have hts := C.2.2.2.2.1
  have hlk := hts _ h4
  have hK := C.2.2.2.2.2.2.2.2.2.1
  have hap := va_apart (own := fr.1.cls) hts g1 ty0 t1 t2 hK h1
  have hat := hP.2 i _ (ws_at hk.1)
  rw [cell_obj hk g2] at hat
  obtain ⟨r, hr1, cell, q1, q2, q3, q4⟩ := hat
  have hrq : r = q := Option.some.inj (hr1.symm.trans h1)
  subst hrq
  obtain ⟨hSl, hfc, kC, hkC, hkind⟩ := hK.1 ci _ h1
  obtain ⟨cf, kf, fi, f, hi, hsl⟩ := hSl k h2
  have hlay := hts _ (g1 _ (u_in_lay h2))
  unfold u_lay at hlay
  rw [if_pos (ht r h1).1] at hlay
  have hst := (u_facts hfc hkC (u_lays hts g1 h2) hi).1
  have hcf : m.cls = cf := by
    obtain ⟨_, _, c', _, _, _, -, -, hf', -, -, -, hown2, -⟩ := Cond.laysFinal_spec hlay
    have e1 : c' = cf := by have := hi.symm.trans hf'; simp at this; exact this.1.symm
    rw [h3, hown r h1] at hown2
    rw [← e1]; exact Option.some.inj (C.2.2.2.1.symm.trans hown2)
  have h6 := u_fits hfc hkC hkind (Or.inr hlay) hi (ht r h1).2 hnar hfit
  refine W.putFinK C.1 C.2.1 C.2.2.2.1 hlk (by rw [← h3]; exact hi) hst hcf (C.2.2.2.2.2.2.2.1.trans hin) (by rw [q2]; exact h6) q1 q3 (by rw [hsl]; exact k2_hasslot (q4 k h2)) rfl rfl hd fun H' e1 e2 e3 => ?_
  rw [hsl] at e1 ⊢
  refine kk p l e s m args below meth c H' _ ls C (hS.put e2 e3 (Nat.le_add_right _ _)) (Wp_put (i := i) hP rfl (fun j hj => cell_eq rfl (funext fun b => (hm j b (fun h => hj h.1)).1) (funext fun b => (hm j b (fun h => hj h.1)).2)) e2 e3 ?_) hL
  rw [cell_obj (S := (S.1, S.2.1, mr')) (z := z) hk g2, ← flds_set (f := mi i) (f' := mi' i) (g := S.2.2 i) (g' := mr' i) (k := k) (v := v) hv (fun j hj => hm i j (fun h => hj h.2))]
  exact ⟨_, h1, t_OB.to (V := updV (vp_V (flds X.1 ci (mi i) (S.2.2 i))) k v) ⟨_, e1, q2, q3, t_set q4 hap h2 v⟩ (fun j _ => vp_updV_set (by rw [flds_len, g3]; exact h2) v j)⟩
theorem ty_at (dA : Nat → ClassId) : (tysOf dA)[0]? = some (dA 0, .int) ∧ (tysOf dA)[1]? = some (dA 1, .boolean) ∧ (tysOf dA)[2]? = some (dA 2, .char) := ⟨rfl, rfl, rfl⟩
theorem mw_iald {i z : Nat} {j : Int32} (hd : decode fr.2.1 pc = .ok (.iaload, 1)) (hk : Kd S i 8 z) (hin : vp_in j z) (kk : MW X fr R kc sl (pc + 1) L (.int (mi i j.toNatClampNeg) :: st) S mi Q) : MW X fr R kc sl pc L (.int j :: .ref (X.1 + i) :: st) S mi Q :=
  fun p l e s m args below meth c H locs ls C hS hP hL => va_iald C.1 C.2.1 C.2.2.2.2.2.2.2.2.2.1 hP.2 i 0 (by rw [ws_at hk.1, cell_int hk (by decide) (by decide)]) rfl hin hd (kk p l e s m args below meth c H locs ls C hS hP hL)
theorem mw_zald {i z : Nat} {j : Int32} (hd : decode fr.2.1 pc = .ok (.baload, 1)) (hk : Kd S i 9 z) (hin : vp_in j z) (kk : MW X fr R kc sl (pc + 1) L (.int (mi i j.toNatClampNeg) :: st) S mi Q) : MW X fr R kc sl pc L (.int j :: .ref (X.1 + i) :: st) S mi Q :=
  fun p l e s m args below meth c H locs ls C hS hP hL => va_zald C.1 C.2.1 C.2.2.2.2.2.2.2.2.2.1 hP.2 i 1 (by rw [ws_at hk.1, cell_int hk (by decide) (by decide)]) rfl hin hd (kk p l e s m args below meth c H locs ls C hS hP hL)
theorem mw_cald {i z : Nat} {j : Int32} (hd : decode fr.2.1 pc = .ok (.caload, 1)) (hk : Kd S i 10 z) (hin : vp_in j z) (kk : MW X fr R kc sl (pc + 1) L (.int (mi i j.toNatClampNeg) :: st) S mi Q) : MW X fr R kc sl pc L (.int j :: .ref (X.1 + i) :: st) S mi Q :=
  fun p l e s m args below meth c H locs ls C hS hP hL => va_cald C.1 C.2.1 C.2.2.2.2.2.2.2.2.2.1 hP.2 i 2 (by rw [ws_at hk.1, cell_int hk (by decide) (by decide)]) rfl hin hd (kk p l e s m args below meth c H locs ls C hS hP hL)
theorem mw_aldv {i c0 z : Nat} {j : Int32} (hd : decode fr.2.1 pc = .ok (.aaload, 1)) (hk : Kd S i c0 z) (hc0 : c0 = 11 ∨ c0 = 12 ∨ c0 = 13 ∨ c0 = 14) (hin : vp_in j z) (kk : MW X fr R kc sl (pc + 1) L (va_rf ((S.2.2 i j.toNatClampNeg).map (X.1 + ·)) :: st) S mi Q) : MW X fr R kc sl pc L (.int j :: .ref (X.1 + i) :: st) S mi Q := by
  intro p l e s m args below meth c H locs ls C hS hP hL
  have hg := kk p l e s m args below meth c H locs ls C hS hP hL
  rcases hc0 with rfl | rfl | rfl | rfl
  · exact va_aldq C.1 C.2.1 C.2.2.2.2.2.2.2.2.2.1 hP.2 i 3 (by rw [ws_at hk.1, cell_ref hk (by decide)]) rfl hin hd hg
  · exact va_aldq C.1 C.2.1 C.2.2.2.2.2.2.2.2.2.1 hP.2 i 4 (by rw [ws_at hk.1, cell_ref hk (by decide)]) rfl hin hd hg
  · exact va_aldq C.1 C.2.1 C.2.2.2.2.2.2.2.2.2.1 hP.2 i 5 (by rw [ws_at hk.1, cell_ref hk (by decide)]) rfl hin hd hg
  · exact va_aldq C.1 C.2.1 C.2.2.2.2.2.2.2.2.2.1 hP.2 i 6 (by rw [ws_at hk.1, cell_ref hk (by decide)]) rfl hin hd hg
theorem mw_aldr {i c0 z a : Nat} {j : Int32} (hd : decode fr.2.1 pc = .ok (.aaload, 1)) (hk : Kd S i c0 z) (hc0 : c0 = 11 ∨ c0 = 12 ∨ c0 = 13 ∨ c0 = 14) (hin : vp_in j z) (ha : S.2.2 i j.toNatClampNeg = some a) (kk : MW X fr R kc sl (pc + 1) L (.ref (X.1 + a) :: st) S mi Q) : MW X fr R kc sl pc L (.int j :: .ref (X.1 + i) :: st) S mi Q :=
  mw_aldv hd hk hc0 hin (by rw [ha]; exact kk)
theorem mw_alen {i z : Nat} {v : Int32} (hd : decode fr.2.1 pc = .ok (.arraylength, 1)) (hk : Kd S i 8 z) (hv : Int32.ofNat z = v) (kk : MW X fr R kc sl (pc + 1) L (.int v :: st) S mi Q) : MW X fr R kc sl pc L (.ref (X.1 + i) :: st) S mi Q :=
  fun p l e s m args below meth c H locs ls C hS hP hL => va_alen C.1 C.2.1 C.2.2.2.2.2.2.2.2.2.1 hP.2 i 0 (by rw [ws_at hk.1, cell_int hk (by decide) (by decide)]) rfl hv hd (kk p l e s m args below meth c H locs ls C hS hP hL)
/-- the script, in the law alone -/
theorem mw_sld {j : Int32} (hd : decode fr.2.1 pc = .ok (.iaload, 1)) (hin : vp_in j X.2.2.2.2.2.2.2.1) (kk : MW X fr R kc sl (pc + 1) L (.int (X.2.2.2.2.2.2.2.2 j.toNatClampNeg) :: st) S mi Q) : MW X fr R kc sl pc L (.int j :: .ref X.2.2.2.2.2.2.1 :: st) S mi Q :=
  fun p l e s m args below meth c H locs ls C hS hP hL => va_sld C.1 C.2.1 C.2.2.2.2.2.2.2.2.2.2.2.2.2.2.2.2.2.2.1 (Nat.lt_of_lt_of_le C.2.2.2.2.2.2.2.2.2.2.2.2.2.2.2.2.2.2.2 C.2.2.2.2.2.2.2.2.1) (Nat.not_le.mpr C.2.2.2.2.2.2.2.2.2.2.2.2.2.2.2.2.2.2.2) hS hin hd (kk p l e s m args below meth c H locs ls C hS hP hL)
theorem mw_slen (hd : decode fr.2.1 pc = .ok (.arraylength, 1)) (kk : MW X fr R kc sl (pc + 1) L (.int (Int32.ofNat X.2.2.2.2.2.2.2.1) :: st) S mi Q) : MW X fr R kc sl pc L (.ref X.2.2.2.2.2.2.1 :: st) S mi Q :=
  fun p l e s m args below meth c H locs ls C hS hP hL => va_slen C.1 C.2.1 C.2.2.2.2.2.2.2.2.2.2.2.2.2.2.2.2.2.2.1 (Nat.lt_of_lt_of_le C.2.2.2.2.2.2.2.2.2.2.2.2.2.2.2.2.2.2.2 C.2.2.2.2.2.2.2.2.1) (Nat.not_le.mpr C.2.2.2.2.2.2.2.2.2.2.2.2.2.2.2.2.2.2.2) hS hd (kk p l e s m args below meth c H locs ls C hS hP hL)
end MWH
end
section
/-! writes to rows, new cells, calls -/
def nwS (S : Sg) (c z : Nat) : Sg := (S.1 + 1, fun j => if j = S.1 then (c, z) else S.2.1 j, fun a k => if a = S.1 then none else S.2.2 a k)
def nwM (S : Sg) (mi : Mem) : Mem := fun a k => if a = S.1 then 0 else mi a k
section MWM
variable {X : Xb} {fr : Fr} {R : Room} {kc sl pc : Nat} {L : List (Option Value)} {st : List Value} {S : Sg} {mi : Mem} {Q : Qt}
theorem cell_upd {X : Xb} {S : Sg} {mi : Mem} {i c z j : Nat} {v : Int32} {H1 : Heap} (hk : Kd S i c z) (hc : ¬ c < 8) (hc2 : c < 11) (e : H1[X.1 + i]? = some ((vp_cell (X.2.2.1 (c - 8)) (z, .inl (mi i))).setSlot j (.int v))) : va_at X.2.1 vwCl (X.1 + i, cellE X S (m_up mi i j v) i) H1 := by
  rw [cell_int hk hc hc2]
  show H1[X.1 + i]? = some (vp_cell _ _)
  rw [e, vp_cell_i, vp_cell_i, arrV_store]
  congr 2
  funext q
  by_cases hq : q = j
  · subst hq; simp [updV, m_up]
  · simp [updV, m_up, hq]
theorem mw_iast {i z : Nat} {j v : Int32} (hd : decode fr.2.1 pc = .ok (.iastore, 1)) (hk : Kd S i 8 z) (hin : vp_in j z) (kk : MW X fr R kc sl (pc + 1) L st S (m_up mi i j.toNatClampNeg v) Q) : MW X fr R kc sl pc L (.int v :: .int j :: .ref (X.1 + i) :: st) S mi Q := by
  intro p l e s m args below meth c H locs ls C hS hP hL
  have hat := hP.2 i _ (ws_at hk.1)
  rw [cell_int hk (by decide) (by decide)] at hat
  have hK := C.2.2.2.2.2.2.2.2.2.1
  refine W.iast C.1 C.2.1 hat ((hK.2 0 _ rfl).1 z (fun j => .int (mi i j))) (fun q => by cases q) (by show ¬ (j < 0 ∨ (arrV _ _ _).slots.size ≤ _); rw [arrV_size]; exact hin) rfl rfl hd fun H1 e1 e2 e3 => ?_
  exact kk p l e s m args below meth c H1 _ ls C (hS.put e2 e3 (Nat.le_add_right _ _)) (Wp_put (i := i) hP rfl (fun j hj => cell_eq rfl (m_up_ne hj) rfl) e2 e3 (cell_upd hk (by decide) (by decide) e1)) hL
theorem mw_zast {i z : Nat} {j v : Int32} (hd : decode fr.2.1 pc = .ok (.bastore, 1)) (hk : Kd S i 9 z) (hin : vp_in j z) (hv : narrow .boolean (.int v) = .int v) (kk : MW X fr R kc sl (pc + 1) L st S (m_up mi i j.toNatClampNeg v) Q) : MW X fr R kc sl pc L (.int v :: .int j :: .ref (X.1 + i) :: st) S mi Q := by
  intro p l e s m args below meth c H locs ls C hS hP hL
  have hat := hP.2 i _ (ws_at hk.1)
  rw [cell_int hk (by decide) (by decide)] at hat
  have hK := C.2.2.2.2.2.2.2.2.2.1
  refine W.zast C.1 C.2.1 hat ((hK.2 1 _ rfl).1 z (fun j => .int (mi i j))) (fun q => by cases q) (by show ¬ (j < 0 ∨ (arrV _ _ _).slots.size ≤ _); rw [arrV_size]; exact hin) rfl rfl hd fun H1 e1 e2 e3 => ?_
  rw [hv] at e1
  exact kk p l e s m args below meth c H1 _ ls C (hS.put e2 e3 (Nat.le_add_right _ _)) (Wp_put (i := i) hP rfl (fun j hj => cell_eq rfl (m_up_ne hj) rfl) e2 e3 (cell_upd hk (by decide) (by decide) e1)) hL
theorem mw_cast {i z : Nat} {j v : Int32} (hd : decode fr.2.1 pc = .ok (.castore, 1)) (hk : Kd S i 10 z) (hin : vp_in j z) (hv : narrow .char (.int v) = .int v) (kk : MW X fr R kc sl (pc + 1) L st S (m_up mi i j.toNatClampNeg v) Q) : MW X fr R kc sl pc L (.int v :: .int j :: .ref (X.1 + i) :: st) S mi Q := by
  intro p l e s m args below meth c H locs ls C hS hP hL
  have hat := hP.2 i _ (ws_at hk.1)
  rw [cell_int hk (by decide) (by decide)] at hat
  have hK := C.2.2.2.2.2.2.2.2.2.1
  refine W.cast C.1 C.2.1 hat ((hK.2 2 _ rfl).1 z (fun j => .int (mi i j))) (fun q => by cases q) (by show ¬ (j < 0 ∨ (arrV _ _ _).slots.size ≤ _); rw [arrV_size]; exact hin) rfl rfl hd fun H1 e1 e2 e3 => ?_
  rw [hv] at e1
  exact kk p l e s m args below meth c H1 _ ls C (hS.put e2 e3 (Nat.le_add_right _ _)) (Wp_put (i := i) hP rfl (fun j hj => cell_eq rfl (m_up_ne hj) rfl) e2 e3 (cell_upd hk (by decide) (by decide) e1)) hL
/-- a reference is put into a row of its class -/
def aTy (c0 ci t0 : Nat) : Prop := (c0 = 11 ∧ ci = 0 ∧ t0 = 3) ∨ (c0 = 12 ∧ ci = 1 ∧ t0 = 4) ∨ (c0 = 13 ∧ ci = 2 ∧ t0 = 5) ∨ (c0 = 14 ∧ ci = 4 ∧ t0 = 6)
theorem aTy_ok {c0 ci t0 : Nat} (h : aTy c0 ci t0) (dA : Nat → ClassId) : ∃ r : vw_C, vwCl[ci]? = some r ∧ (tysOf dA)[t0]? = some (dA (c0 - 8), .object r.1) ∧ ¬ c0 < 11 ∧ ci < 8 := by
  rcases h with ⟨rfl, rfl, rfl⟩ | ⟨rfl, rfl, rfl⟩ | ⟨rfl, rfl, rfl⟩ | ⟨rfl, rfl, rfl⟩
  · exact ⟨_, rfl, rfl, by decide, by decide⟩
  · exact ⟨_, rfl, rfl, by decide, by decide⟩
  · exact ⟨_, rfl, rfl, by decide, by decide⟩
  · exact ⟨_, rfl, rfl, by decide, by decide⟩
theorem mw_aast {i c0 z a ci z2 t0 : Nat} {j : Int32} (hd : decode fr.2.1 pc = .ok (.aastore, 1)) (hk : Kd S i c0 z) (ha : Kd S a ci z2) (hty : aTy c0 ci t0) (hin : vp_in j z) (kk : MW X fr R kc sl (pc + 1) L st (S.1, S.2.1, r_up S.2.2 i j.toNatClampNeg (some a)) mi Q) : MW X fr R kc sl pc L (.ref (X.1 + a) :: .int j :: .ref (X.1 + i) :: st) S mi Q := by
  intro p l e s m args below meth c H locs ls C hS hP hL
  obtain ⟨r, hr1, hr2, hr3, hr4⟩ := aTy_ok hty X.2.2.1
  have hat := hP.2 i _ (ws_at hk.1)
  rw [cell_ref hk hr3] at hat
  have hav := hP.2 a _ (ws_at ha.1)
  rw [cell_obj ha hr4] at hav
  obtain ⟨r', hr', cellV, g1, g2, g3, -⟩ := hav
  have hK := C.2.2.2.2.2.2.2.2.2.1
  have hcls := (hK.1 ci r hr1).2
  obtain ⟨kA, comp, k1, k2, k3, -⟩ := (hK.2 t0 _ hr2).2
  have hcomp : comp = X.2.1.1 ci := Option.some.inj (k3.symm.trans hcls.1)
  subst hcomp
  obtain ⟨kC, hkC, -⟩ := hcls.2
  have hlt : j.toNatClampNeg < z := Nat.not_le.mp fun q => hin (Or.inr q)
  have h0 : ¬ j < 0 := fun q => hin (Or.inl q)
  refine W.aast C.1 C.2.1 hat (fun q h => by cases h) (fun h => by cases h) k1 k2 rfl hkC ⟨h0, by show _ < (arrV _ _ _).slots.size; rw [arrV_size]; exact hlt⟩ g1 (fun q h => by rw [g3] at h; cases h) (by rw [g2]; exact hkC) (by rw [g2]; exact va_assign hcls) rfl rfl hd fun H1 e1 e2 e3 => ?_
  refine kk p l e s m args below meth c H1 _ ls C (hS.put e2 e3 (Nat.le_add_right _ _)) (Wp_put (i := i) hP rfl (fun j hj => cell_eq rfl rfl (r_up_ne hj)) e2 e3 ?_) hL
  rw [cell_ref (S := (S.1, S.2.1, r_up S.2.2 i j.toNatClampNeg (some a))) (z := z) hk hr3]
  show H1[X.1 + i]? = some (vp_cell _ _)
  rw [e1, vp_cell_q, vp_cell_q, arrV_store]
  congr 2
  funext q
  by_cases hq : q = j.toNatClampNeg
  · subst hq; simp [updV, r_up, va_rf]
  · simp [updV, r_up, hq]
theorem Wp_new {X : Xb} {S : Sg} {mi : Mem} {c z : Nat} {H H1 : Heap} (hP : Wp X S mi H) (z1 : H1.size = H.size + 1) (o1 : ∀ q : Nat, q < H.size → H1[q]? = H[q]?) (hnew : va_at X.2.1 vwCl (X.1 + S.1, cellE X (nwS S c z) (nwM S mi) S.1) H1) : Wp X (nwS S c z) (nwM S mi) H1 := by
  refine ⟨by rw [z1, hP.1]; rfl, fun k q hk => ?_⟩
  by_cases hl : k < S.1 + 1
  · rw [ws_at hl] at hk
    cases hk
    by_cases hki : k = S.1
    · subst hki; exact hnew
    · have hks : k < S.1 := by omega
      rw [cell_eq (S := S) (mi := mi) (by simp [nwS, hki]) (by funext b; simp [nwM, hki]) (by funext b; simp [nwS, hki])]
      exact (hP.2 k _ (ws_at hks)).kept (o1 _ (by show X.1 + k < H.size; rw [hP.1]; omega))
  · rw [List.getElem?_eq_none (by simp [wsOf, nwS]; omega)] at hk; cases hk
theorem va_S_new {A : Nat → Prop} {H0 H H1 : Heap} {locs : List Loc} (hS : va_S A H0 H locs) (z1 : H1.size = H.size + 1) (o1 : ∀ q : Nat, q < H.size → H1[q]? = H[q]?) : va_S A H0 H1 locs :=
  ⟨Nat.le_trans hS.1 (by omega), fun x h1 h2 => (o1 x (Nat.lt_of_lt_of_le h1 hS.1)).trans (hS.2.1 x h1 h2), hS.2.2⟩
theorem mw_new {idx ci : Nat} {q : vw_C} (hd : decode fr.2.1 pc = .ok (.new idx, 3)) (hq : vwCl[ci]? = some q) (hcl : Cond.classLink fr.1.cls idx q.1 ∈ TW) (hc : kc + 1 ≤ R.cells) (hs : sl + nF ci ≤ R.slots) (kk : MW X fr R (kc + 1) (sl + nF ci) (pc + 3) L (.ref (X.1 + S.1) :: st) (nwS S ci 0) (nwM S mi) Q) : MW X fr R kc sl pc L st S mi Q := by
  intro p l e s m args below meth c H locs ls C hS hP hL
  obtain ⟨g1, g2, g3, ⟨ty0, t1, t2, t3⟩, g5, g6⟩ := ci_all ci q hq
  have hts := C.2.2.2.2.1
  have hKn := C.2.2.2.2.2.2.2.2.2.1.1 ci _ hq
  rw [g3] at hs kk
  refine W.newcK C.1 C.2.1 C.2.2.2.1 (hts _ hcl) (hts _ g5) (hts _ g6) rfl hd hc hs hKn.2.1 rfl fun H1 kC hkC e1 z1 o1 => ?_
  have hsz : H.size = X.1 + S.1 := hP.1
  refine (show ∀ h, h = H.size → W p l e R s m args below meth c H1 locs (kc + 1) (sl + q.2.2) (Q below args s) (F0 m (pc + 3) ls (.ref h :: st)) from fun h hh => ?_) H.size rfl
  rw [hh, hsz]
  refine kk p l e s m args below meth c H1 locs ls C (va_S_new hS z1 o1) (Wp_new hP z1 o1 ?_) hL
  rw [cell_obj (c := ci) (z := 0) ⟨by simp [nwS], by simp [nwS]⟩ g2]
  refine ⟨q, hq, (show t_OB (X.1 + S.1) _ _ _ H1 _ from ?_)⟩
  rw [← hsz]
  refine (u_born ty0 hts g1 hKn hkC e1 t1).to (fun j hj => ?_)
  rw [t3 j hj]
  unfold vp_V
  rw [List.getD_eq_getElem?_getD, flds_at (by rw [g3]; exact hj)]
  simp only [nwM, nwS, if_true, Option.map_none, Option.getD_some]
  rfl
theorem mw_newi {n : Int32} {N : Nat} (hd : decode fr.2.1 pc = .ok (.newarray .int, 2)) (hw : Cond.arrayClass .int ∈ TW) (hn : ¬ n < 0) (hN : n.toNatClampNeg = N) (hb : N * 4 ≤ 536870912) (hc : kc + 1 ≤ R.cells) (hs : sl + N ≤ R.slots) (kk : MW X fr R (kc + 1) (sl + N) (pc + 2) L (.ref (X.1 + S.1) :: st) (nwS S 8 N) (nwM S mi) Q) : MW X fr R kc sl pc L (.int n :: st) S mi Q := by
  intro p l e s m args below meth c H locs ls C hS hP hL
  refine va_newaK (atype := .int) C.1 C.2.1 (C.2.2.2.2.1 _ hw) rfl hd rfl hn hN hb hc hs hP.1 fun H1 cA e1 z1 o1 hAr hNm => ?_
  have hcA : cA = X.2.2.1 0 := Option.some.inj (hNm.symm.trans (C.2.2.2.2.2.2.2.2.2.1.2 0 _ rfl).2)
  subst hcA
  have z2 : H1.size = H.size + 1 := by rw [z1, hP.1]
  have o2 : ∀ q : Nat, q < H.size → H1[q]? = H[q]? := fun q h => o1 q (by rw [← hP.1]; exact h)
  refine kk p l e s m args below meth c H1 locs ls C (va_S_new hS z2 o2) (Wp_new hP z2 o2 ?_) hL
  rw [cell_int (c := 8) (z := N) ⟨by simp [nwS], by simp [nwS]⟩ (by decide) (by decide)]
  show H1[X.1 + S.1]? = some (vp_cell _ _)
  rw [e1, vp_cell_i]
  congr 2
  funext q
  simp [nwM, defaultValue]
  rfl
theorem mw_newz {n : Int32} {N : Nat} (hd : decode fr.2.1 pc = .ok (.newarray .boolean, 2)) (hw : Cond.arrayClass .boolean ∈ TW) (hn : ¬ n < 0) (hN : n.toNatClampNeg = N) (hb : N * componentBytes .boolean ≤ 536870912) (hc : kc + 1 ≤ R.cells) (hs : sl + N ≤ R.slots) (kk : MW X fr R (kc + 1) (sl + N) (pc + 2) L (.ref (X.1 + S.1) :: st) (nwS S 9 N) (nwM S mi) Q) : MW X fr R kc sl pc L (.int n :: st) S mi Q := by
  intro p l e s m args below meth c H locs ls C hS hP hL
  refine va_newaK (atype := .boolean) C.1 C.2.1 (C.2.2.2.2.1 _ hw) rfl hd rfl hn hN hb hc hs hP.1 fun H1 cA e1 z1 o1 hAr hNm => ?_
  have hcA : cA = X.2.2.1 1 := Option.some.inj (hNm.symm.trans (C.2.2.2.2.2.2.2.2.2.1.2 1 _ rfl).2)
  subst hcA
  have z2 : H1.size = H.size + 1 := by rw [z1, hP.1]
  have o2 : ∀ q : Nat, q < H.size → H1[q]? = H[q]? := fun q h => o1 q (by rw [← hP.1]; exact h)
  refine kk p l e s m args below meth c H1 locs ls C (va_S_new hS z2 o2) (Wp_new hP z2 o2 ?_) hL
  rw [cell_int (c := 9) (z := N) ⟨by simp [nwS], by simp [nwS]⟩ (by decide) (by decide)]
  show H1[X.1 + S.1]? = some (vp_cell _ _)
  rw [e1, vp_cell_i]
  congr 2
  funext q
  simp [nwM, defaultValue]
  rfl
theorem mw_newc {n : Int32} {N : Nat} (hd : decode fr.2.1 pc = .ok (.newarray .char, 2)) (hw : Cond.arrayClass .char ∈ TW) (hn : ¬ n < 0) (hN : n.toNatClampNeg = N) (hb : N * componentBytes .char ≤ 536870912) (hc : kc + 1 ≤ R.cells) (hs : sl + N ≤ R.slots) (kk : MW X fr R (kc + 1) (sl + N) (pc + 2) L (.ref (X.1 + S.1) :: st) (nwS S 10 N) (nwM S mi) Q) : MW X fr R kc sl pc L (.int n :: st) S mi Q := by
  intro p l e s m args below meth c H locs ls C hS hP hL
  refine va_newaK (atype := .char) C.1 C.2.1 (C.2.2.2.2.1 _ hw) rfl hd rfl hn hN hb hc hs hP.1 fun H1 cA e1 z1 o1 hAr hNm => ?_
  have hcA : cA = X.2.2.1 2 := Option.some.inj (hNm.symm.trans (C.2.2.2.2.2.2.2.2.2.1.2 2 _ rfl).2)
  subst hcA
  have z2 : H1.size = H.size + 1 := by rw [z1, hP.1]
  have o2 : ∀ q : Nat, q < H.size → H1[q]? = H[q]? := fun q h => o1 q (by rw [← hP.1]; exact h)
  refine kk p l e s m args below meth c H1 locs ls C (va_S_new hS z2 o2) (Wp_new hP z2 o2 ?_) hL
  rw [cell_int (c := 10) (z := N) ⟨by simp [nwS], by simp [nwS]⟩ (by decide) (by decide)]
  show H1[X.1 + S.1]? = some (vp_cell _ _)
  rw [e1, vp_cell_i]
  congr 2
  funext q
  simp [nwM, defaultValue]
  rfl
end MWM
end
section
theorem math_max : Cond.static Lib.Math.max.name ∈ TW ∧ Cond.code Lib.Math.max.name Lib.Math.max.code 2 (some .int) ∈ TW := ⟨TW_of 393 (by decide +kernel) (by decide +kernel), TW_of 394 (by decide +kernel) (by decide +kernel)⟩
theorem math_min : Cond.static Lib.Math.min.name ∈ TW ∧ Cond.code Lib.Math.min.name Lib.Math.min.code 2 (some .int) ∈ TW := ⟨TW_of 345 (by decide +kernel) (by decide +kernel), TW_of 346 (by decide +kernel) (by decide +kernel)⟩
theorem math_abs : Cond.static Lib.Math.abs.name ∈ TW ∧ Cond.code Lib.Math.abs.name Lib.Math.abs.code 1 (some .int) ∈ TW := ⟨TW_of 581 (by decide +kernel) (by decide +kernel), TW_of 582 (by decide +kernel) (by decide +kernel)⟩
theorem math_ini : Cond.initialized "java/lang/Math" ∈ TW := TW_of 64 (by decide +kernel) (by decide +kernel)
theorem obj_ok : Cond.instanceMethod Lib.objectInit ∈ TW ∧ Cond.code Lib.objectInit ⟨#[0xb1]⟩ 1 none ∈ TW := ⟨TW_of 79 (by decide +kernel) (by decide +kernel), TW_of 80 (by decide +kernel) (by decide +kernel)⟩
theorem acopy_ok : Cond.native arraycopyName ∈ TW ∧ Cond.static arraycopyName ∈ TW ∧ Cond.initialized "java/lang/System" ∈ TW := ⟨TW_of 524 (by decide +kernel) (by decide +kernel), TW_of 523 (by decide +kernel) (by decide +kernel), TW_of 67 (by decide +kernel) (by decide +kernel)⟩
theorem arr_int : Cond.arrayClass .int ∈ TW := TW_of 122 (by decide +kernel) (by decide +kernel)
theorem arr_boolean : Cond.arrayClass .boolean ∈ TW := TW_of 1009 (by decide +kernel) (by decide +kernel)
theorem arr_char : Cond.arrayClass .char ∈ TW := TW_of 1008 (by decide +kernel) (by decide +kernel)
def MF (g : Fr) (n : Nat) : Prop := Cond.code g.1 g.2.1 g.2.2.1 g.2.2.2 ∈ TW ∧ Cond.initialized g.1.cls ∈ TW ∧ (g.1.cls ≠ "java/lang/invoke/MethodHandle" ∧ g.1.cls ≠ "java/lang/invoke/VarHandle" ∧ (parseMethodDescriptor g.1.desc).map (fun d => d.parameters.length) = some n) ∧ g.2.2.1 ≤ 21
def MFV (g : Fr) (n ci : Nat) : Prop := MF g n ∧ Cond.instanceMethod g.1 ∈ TW ∧ Cond.selects g.1.cls g.1 g.1 ∈ TW ∧ ∃ q : vw_C, vwCl[ci]? = some q ∧ q.1 = g.1.cls
def MFS (g : Fr) (n : Nat) : Prop := MF g n ∧ Cond.static g.1 ∈ TW
def MFI (g : Fr) (n : Nat) : Prop := MF g n ∧ Cond.instanceMethod g.1 ∈ TW ∧ g.1.name = "<init>" ∧ g.2.2.2 = none
theorem goodTW {g : Fr} (h : Cond.code g.1 g.2.1 g.2.2.1 g.2.2.2 ∈ TW) : GoodIn TW (.code g.1 g.2.1 g.2.2.1 g.2.2.2 :: TW) := by
  have h1 : ∀ w ∈ TW, w ∈ TW ∧ ((w.onTables && w.keeps) = true ∨ ∃ ty, w = .arrayClass ty) := fun w hw => ⟨hw, good_of_word (List.mem_filter.mp hw).2⟩
  intro w hw
  rcases List.mem_cons.mp hw with rfl | hw
  · exact h1 _ h
  · exact h1 w hw
theorem Pre3_blind {X : Xb} {S : Sg} {mi : Mem} {av : List Value} : FrameBlind (va_Pc av (Pre3 X S mi)) := by
  intro a U g mk h
  obtain ⟨h1, h2, h3⟩ := h
  refine ⟨h1, h2, ?_⟩
  exact h3.go (U := U.calling g mk a) (by rw [h2.1]; exact Nat.le_add_right _ _) (State.WarmedH.refl U) (fun q _ _ => rfl)
section MWC
variable {X : Xb} {fr : Fr} {R : Room} {kc sl pc : Nat} {L : List (Option Value)} {st st0 : List Value} {S : Sg} {mi : Mem} {Q : Qt}
theorem Pre3_at {p : Program} {s : State} {m : MethodId} {args : Array Value} {meth : Method} {c : Code} {H : Heap} {locs : List Loc} (C : Cx fr X p s m args meth c) (hS : va_S (bA X) s.heap H locs) (hP : Wp X S mi H) {av : List Value} : ∀ U : State, U.heap = H → s.WarmedH U.vm → va_Pc av (Pre3 X S mi) av.toArray U := by
  intro U hU hW
  subst hU
  exact ⟨rfl, hP, C.2.2.2.2.2.2.2.2.2.go C.2.2.2.2.2.2.2.2.1 hW hS.2.1⟩
theorem W_call {p : Program} {l : Launch} {e : Env} {s : State} {m : MethodId} {args : Array Value} {below : List Frame} {meth : Method} {c : Code} {H : Heap} {locs : List Loc} {ls : Array Slot} {mc ms : Nat} {P : Pt3} {av : Array Value} (C : Cx fr X p s m args meth c) (hS : va_S (bA X) s.heap H locs) (hL : Lv ls fr.2.2.1 L)
    (run : va_Run p l e R s m args below meth c H locs kc sl mc ms (F0 m pc ls st0) st (Qc3 X P av) (bA X)) (kk : ∀ r S' mi', P r S' mi' → MW X fr R (kc + mc) (sl + ms) (pc + 3) L (r.toList ++ st) S' mi' Q) : W p l e R s m args below meth c H locs kc sl (Q below args s) (F0 m pc ls st0) := by
  intro T hT Y
  obtain ⟨v, st₀, t, T', Lc, h0, X', hLc, e1, e2, ⟨⟨r, S', mi', hv, hp, hw⟩, hz, hk⟩, stp⟩ := run T hT Y
  cases hv
  rw [h0] at hz hk
  have hS' : va_S (bA X) s.heap T'.heap (locs ++ Lc) := ⟨Nat.le_trans hS.1 (by rw [e1]; exact hz), fun q h1 h2 => by rw [e1, hk q (Nat.lt_of_lt_of_le h1 hS.1) h2]; exact hS.2.1 q h1 h2, fun q hq => by
      rcases List.mem_append.mp hq with h | h
      · exact hS.2.2 q h
      · exact hLc q h⟩
  obtain ⟨t2, a1, b1⟩ := kk v S' mi' hp p l e s m args below meth c T'.heap (locs ++ Lc) ls C hS' (by rw [e1]; exact hw) hL T' rfl X'
  exact ⟨t2, stp t2 a1, b1⟩
theorem mw_callV {d mc ms n ci i z idx : Nat} {g : Fr} {As : List Value} {P : Pt3} (hd : decode fr.2.1 pc = .ok (.invokevirtual idx, 3)) (hl : Cond.methodLink fr.1.cls idx g.1 ∈ TW) (hm : MFV g n ci) (hok : Ok d mc ms g X (.ref (X.1 + i) :: As) S mi P) (hk : Kd S i ci z) (hn : As.length = n) (hst : st0 = As.reverse ++ .ref (X.1 + i) :: st) (hr : (st.map fun v => v.category).sum ≤ 8) (hR : d + 1 ≤ R.frames ∧ 40 + 40 * d ≤ R.locals) (hc : kc + mc ≤ R.cells ∧ sl + ms ≤ R.slots)
    (kk : ∀ r S' mi', P r S' mi' → MW X fr R (kc + mc) (sl + ms) (pc + 3) L (r.toList ++ st) S' mi' Q) : MW X fr R kc sl pc L st0 S mi Q := by
  intro p l e s m args below meth c H locs ls C hS hP hL
  obtain ⟨⟨m1, m2, m3, m4⟩, m5, m6, q, m7, m8⟩ := hm
  obtain ⟨g1, g2, g3, -⟩ := ci_all ci q m7
  have hts := C.2.2.2.2.1
  have cb : CallB R s args fr.1.cls idx g.1 g.2.1 g.2.2.1 g.2.2.2 (.code g.1 g.2.1 g.2.2.1 g.2.2.2 :: TW) (rmOf d mc ms) mc ms n := callB_of n hts (goodTW m1) rfl rfl rfl (hts _ m2) (hts _ hl) m3 ⟨hR.1, by show 8 + (g.2.2.1 + 11) + 40 * d ≤ R.locals; omega⟩
  have hrecv := va_recv C.2.2.2.2.2.2.2.2.2.1 hP.2 m7 (by rw [ws_at hk.1, cell_obj hk g2])
  rw [m8] at hrecv
  exact W_call C hS hL (va_runV ⟨C.1, C.2.1, C.2.2.1, C.2.2.2.1, hts⟩ (hok l) ⟨cb, hts _ m5, hts _ m6⟩ ⟨Pre3_blind, hrecv, Pre3_at C hS hP⟩ rfl hn hL.2.1.1 hst (lv_room hr) hd hc) kk
theorem mw_callS {d mc ms n idx : Nat} {g : Fr} {As : List Value} {P : Pt3} (hd : decode fr.2.1 pc = .ok (.invokestatic idx, 3)) (hl : Cond.methodLink fr.1.cls idx g.1 ∈ TW) (hm : MFS g n) (hok : Ok d mc ms g X As S mi P) (hn : As.length = n) (hst : st0 = As.reverse ++ st) (hr : (st.map fun v => v.category).sum ≤ 8) (hR : d + 1 ≤ R.frames ∧ 40 + 40 * d ≤ R.locals) (hc : kc + mc ≤ R.cells ∧ sl + ms ≤ R.slots)
    (kk : ∀ r S' mi', P r S' mi' → MW X fr R (kc + mc) (sl + ms) (pc + 3) L (r.toList ++ st) S' mi' Q) : MW X fr R kc sl pc L st0 S mi Q := by
  intro p l e s m args below meth c H locs ls C hS hP hL
  obtain ⟨⟨m1, m2, m3, m4⟩, m5⟩ := hm
  have hts := C.2.2.2.2.1
  have cb : CallB R s args fr.1.cls idx g.1 g.2.1 g.2.2.1 g.2.2.2 (.code g.1 g.2.1 g.2.2.1 g.2.2.2 :: TW) (rmOf d mc ms) mc ms n := callB_of n hts (goodTW m1) rfl rfl rfl (hts _ m2) (hts _ hl) m3 ⟨hR.1, by show 8 + (g.2.2.1 + 11) + 40 * d ≤ R.locals; omega⟩
  exact W_call C hS hL (va_runS ⟨C.1, C.2.1, C.2.2.1, C.2.2.2.1, hts⟩ (hok l) ⟨cb, hts _ m5⟩ ⟨Pre3_blind, Pre3_at C hS hP⟩ rfl hn hL.2.1.1 hst (lv_room hr) hd hc) kk
theorem mw_callI {d mc ms n i idx : Nat} {g : Fr} {As : List Value} {P : Pt3} (hd : decode fr.2.1 pc = .ok (.invokespecial idx, 3)) (hl : Cond.methodLink fr.1.cls idx g.1 ∈ TW) (hm : MFI g n) (hok : Ok d mc ms g X (.ref (X.1 + i) :: As) S mi P) (hn : As.length = n) (hst : st0 = As.reverse ++ .ref (X.1 + i) :: st) (hr : (st.map fun v => v.category).sum ≤ 8) (hR : d + 1 ≤ R.frames ∧ 40 + 40 * d ≤ R.locals) (hc : kc + mc ≤ R.cells ∧ sl + ms ≤ R.slots)
    (kk : ∀ r S' mi', P r S' mi' → MW X fr R (kc + mc) (sl + ms) (pc + 3) L (r.toList ++ st) S' mi' Q) : MW X fr R kc sl pc L st0 S mi Q := by
  intro p l e s m args below meth c H locs ls C hS hP hL
  obtain ⟨⟨m1, m2, m3, m4⟩, m5, m6, m7⟩ := hm
  have hts := C.2.2.2.2.1
  have cb : CallB R s args fr.1.cls idx g.1 g.2.1 g.2.2.1 none (.code g.1 g.2.1 g.2.2.1 g.2.2.2 :: TW) (rmOf d mc ms) mc ms n := callB_of n hts (goodTW m1) (by rw [m7]) rfl rfl (hts _ m2) (hts _ hl) m3 ⟨hR.1, by show 8 + (g.2.2.1 + 11) + 40 * d ≤ R.locals; omega⟩
  exact W_call C hS hL (va_runI ⟨C.1, C.2.1, C.2.2.1, C.2.2.2.1, hts⟩ (hok l) ⟨cb, m6, hts _ m5⟩ ⟨Pre3_blind, Pre3_at C hS hP⟩ rfl hn hL.2.1.1 hst (lv_room hr) hd hc) kk
/-- of a nest mate's class -/
theorem mw_callSN {d mc ms n idx : Nat} {g : Fr} {host : String} {As : List Value} {P : Pt3} (hd : decode fr.2.1 pc = .ok (.invokestatic idx, 3)) (hl : Cond.methodLinkNest fr.1.cls idx g.1 host ∈ nestW) (hm : MFS g n) (hok : Ok d mc ms g X As S mi P) (hn : As.length = n) (hst : st0 = As.reverse ++ st) (hr : (st.map fun v => v.category).sum ≤ 8) (hR : d + 1 ≤ R.frames ∧ 40 + 40 * d ≤ R.locals) (hc : kc + mc ≤ R.cells ∧ sl + ms ≤ R.slots)
    (kk : ∀ r S' mi', P r S' mi' → MW X fr R (kc + mc) (sl + ms) (pc + 3) L (r.toList ++ st) S' mi' Q) : MW X fr R kc sl pc L st0 S mi Q := by
  intro p l e s m args below meth c H locs ls C hS hP hL
  obtain ⟨⟨m1, m2, m3, m4⟩, m5⟩ := hm
  have hts := C.2.2.2.2.1
  have cb := va_cnB (own := fr.1.cls) (index := idx) (host := host) (R := R) (rm := rmOf d mc ms) (mc := mc) (ms := ms) n hts (goodTW m1) rfl rfl rfl (C.2.2.2.2.2.2.2.2.2.2.1 _ hl) (hts _ m2) m3 ⟨hR.1, by show 8 + (g.2.2.1 + 11) + 40 * d ≤ R.locals; omega⟩
  exact W_call C hS hL (va_runSN ⟨C.1, C.2.1, C.2.2.1, C.2.2.2.1, hts⟩ (hok l) ⟨cb, hts _ m5, trivial⟩ ⟨Pre3_blind, Pre3_at C hS hP⟩ rfl hn hL.2.1.1 hst (lv_room hr) hd hc) kk
theorem mw_callIN {d mc ms n i idx : Nat} {g : Fr} {host : String} {As : List Value} {P : Pt3} (hd : decode fr.2.1 pc = .ok (.invokespecial idx, 3)) (hl : Cond.methodLinkNest fr.1.cls idx g.1 host ∈ nestW) (hm : MFI g n) (hok : Ok d mc ms g X (.ref (X.1 + i) :: As) S mi P) (hn : As.length = n) (hst : st0 = As.reverse ++ .ref (X.1 + i) :: st) (hr : (st.map fun v => v.category).sum ≤ 8) (hR : d + 1 ≤ R.frames ∧ 40 + 40 * d ≤ R.locals) (hc : kc + mc ≤ R.cells ∧ sl + ms ≤ R.slots)
    (kk : ∀ r S' mi', P r S' mi' → MW X fr R (kc + mc) (sl + ms) (pc + 3) L (r.toList ++ st) S' mi' Q) : MW X fr R kc sl pc L st0 S mi Q := by
  intro p l e s m args below meth c H locs ls C hS hP hL
  obtain ⟨⟨m1, m2, m3, m4⟩, m5, m6, m7⟩ := hm
  have hts := C.2.2.2.2.1
  have cb := va_cnB (own := fr.1.cls) (index := idx) (host := host) (R := R) (rm := rmOf d mc ms) (mc := mc) (ms := ms) (y := g.1) (bytes := g.2.1) (maxL := g.2.2.1) (ret := none) (ws := .code g.1 g.2.1 g.2.2.1 g.2.2.2 :: TW) n hts (goodTW m1) (by rw [m7]) rfl rfl (C.2.2.2.2.2.2.2.2.2.2.1 _ hl) (hts _ m2) m3 ⟨hR.1, by show 8 + (g.2.2.1 + 11) + 40 * d ≤ R.locals; omega⟩
  exact W_call C hS hL (va_runIN ⟨C.1, C.2.1, C.2.2.1, C.2.2.2.1, hts⟩ (hok l) ⟨cb, m6, hts _ m5⟩ ⟨Pre3_blind, Pre3_at C hS hP⟩ rfl hn hL.2.1.1 hst (lv_room hr) hd hc) kk
theorem mw_objI {idx i : Nat} (hd : decode fr.2.1 pc = .ok (.invokespecial idx, 3)) (hl : Cond.methodLink fr.1.cls idx Lib.objectInit ∈ TW) (hr : (st.map fun v => v.category).sum ≤ 8) (hR : 1 ≤ R.frames ∧ 40 ≤ R.locals) (kk : MW X fr R kc sl (pc + 3) L st S mi Q) : MW X fr R kc sl pc L (.ref i :: st) S mi Q :=
  fun p l e s m args below meth c H locs ls C hS hP hL => W.objInit C.1 C.2.1 C.2.2.2.1 (C.2.2.2.2.1 _ hl) (C.2.2.2.2.1 _ obj_ok.1) (C.2.2.2.2.1 _ obj_ok.2) rfl (by rw [C.2.2.1]; exact hL.2.1.1) rfl hd hR.1 (by have := lv_room (m := m) (pc := pc) (ls := ls) (rest := .ref i :: st) hr; omega) (kk p l e s m args below meth c H locs ls C hS hP hL)
theorem mw_mmax {idx : Nat} {x y : Int32} (hd : decode fr.2.1 pc = .ok (.invokestatic idx, 3)) (hl : Cond.methodLink fr.1.cls idx Lib.Math.max.name ∈ TW) (hr : (st.map fun v => v.category).sum ≤ 8) (hR : 1 ≤ R.frames ∧ 40 ≤ R.locals) (hc : kc ≤ R.cells ∧ sl ≤ R.slots) (kk : MW X fr R kc sl (pc + 3) L (.int (if x < y then y else x) :: st) S mi Q) : MW X fr R kc sl pc L (.int y :: .int x :: st) S mi Q :=
  fun p l e s m args below meth c H locs ls C hS hP hL => va_mmax C.1 C.2.1 (by rw [C.2.2.1]; exact hL.2.1.1.symm) C.2.2.2.1 (C.2.2.2.2.1 _ hl) (C.2.2.2.2.1 _ math_max.1) (C.2.2.2.2.1 _ math_ini) (C.2.2.2.2.1 _ math_max.2) hR.1 (by omega) hc.1 hc.2 hd (kk p l e s m args below meth c H locs ls C hS hP hL)
theorem mw_mmin {idx : Nat} {x y : Int32} (hd : decode fr.2.1 pc = .ok (.invokestatic idx, 3)) (hl : Cond.methodLink fr.1.cls idx Lib.Math.min.name ∈ TW) (hr : (st.map fun v => v.category).sum ≤ 8) (hR : 1 ≤ R.frames ∧ 40 ≤ R.locals) (hc : kc ≤ R.cells ∧ sl ≤ R.slots) (kk : MW X fr R kc sl (pc + 3) L (.int (if y < x then y else x) :: st) S mi Q) : MW X fr R kc sl pc L (.int y :: .int x :: st) S mi Q :=
  fun p l e s m args below meth c H locs ls C hS hP hL => va_mmin C.1 C.2.1 (by rw [C.2.2.1]; exact hL.2.1.1.symm) C.2.2.2.1 (C.2.2.2.2.1 _ hl) (C.2.2.2.2.1 _ math_min.1) (C.2.2.2.2.1 _ math_ini) (C.2.2.2.2.1 _ math_min.2) hR.1 (by omega) hc.1 hc.2 hd (kk p l e s m args below meth c H locs ls C hS hP hL)
theorem mw_mabs {idx : Nat} {x : Int32} (hd : decode fr.2.1 pc = .ok (.invokestatic idx, 3)) (hl : Cond.methodLink fr.1.cls idx Lib.Math.abs.name ∈ TW) (hr : (st.map fun v => v.category).sum ≤ 8) (hR : 1 ≤ R.frames ∧ 40 ≤ R.locals) (hc : kc ≤ R.cells ∧ sl ≤ R.slots) (kk : MW X fr R kc sl (pc + 3) L (.int (if 0 ≤ x then x else 0 - x) :: st) S mi Q) : MW X fr R kc sl pc L (.int x :: st) S mi Q :=
  fun p l e s m args below meth c H locs ls C hS hP hL => va_mabs C.1 C.2.1 (by rw [C.2.2.1]; exact hL.2.1.1.symm) C.2.2.2.1 (C.2.2.2.2.1 _ hl) (C.2.2.2.2.1 _ math_abs.1) (C.2.2.2.2.1 _ math_ini) (C.2.2.2.2.1 _ math_abs.2) hR.1 (by omega) hc.1 hc.2 hd (kk p l e s m args below meth c H locs ls C hS hP hL)
theorem mw_getKA {idx : Nat} (hd : decode fr.2.1 pc = .ok (.getstatic idx, 3)) (hl : Cond.fieldLinkNest fr.1.cls idx RX6 "KIND_ABOVE" "[I" RX6 ∈ nestW) (kk : MW X fr R kc sl (pc + 3) L (.ref X.2.2.2.1 :: st) S mi Q) : MW X fr R kc sl pc L st S mi Q :=
  fun p l e s m args below meth c H locs ls C hS hP hL => va_getsN C.1 C.2.1 C.2.2.2.2.2.2.2.2.2.2.2.2.1 hS C.2.2.2.1 (va_Nw.use rfl (C.2.2.2.2.2.2.2.2.2.2.1 _ hl)) (fun x h => h) hd (kk p l e s m args below meth c H locs ls C hS hP hL)
theorem mw_kald {j : Int32} {v : Value} (hd : decode fr.2.1 pc = .ok (.iaload, 1)) (hin : vp_in j 6) (hv : kaF j.toNatClampNeg = v) (kk : MW X fr R kc sl (pc + 1) L (v :: st) S mi Q) : MW X fr R kc sl pc L (.int j :: .ref X.2.2.2.1 :: st) S mi Q :=
  fun p l e s m args below meth c H locs ls C hS hP hL => va_ti C.1 C.2.1 C.2.2.2.2.2.2.2.2.2.2.2.2.2.1 hS hin hv hd (kk p l e s m args below meth c H locs ls C hS hP hL)
theorem mw_anew {idx ci c0 t0 N : Nat} {n : Int32} {q : vw_C} (hd : decode fr.2.1 pc = .ok (.anewarray idx, 3)) (hq : vwCl[ci]? = some q) (hty : aTy c0 ci t0) (hcl : Cond.classLink fr.1.cls idx q.1 ∈ TW) (hao : q.1 ∈ aoC) (hn : ¬ n < 0) (hN : n.toNatClampNeg = N) (hb : N * 4 ≤ 536870912) (hc : kc + 1 ≤ R.cells) (hs : sl + N ≤ R.slots) (kk : MW X fr R (kc + 1) (sl + N) (pc + 3) L (.ref (X.1 + S.1) :: st) (nwS S c0 N) (nwM S mi) Q) : MW X fr R kc sl pc L (.int n :: st) S mi Q := by
  intro p l e s m args below meth c H locs ls C hS hP hL
  obtain ⟨r, hr1, hr2, hr3, hr4⟩ := aTy_ok hty X.2.2.1
  have hrq : r = q := Option.some.inj (hr1.symm.trans hq)
  subst hrq
  subst hN
  have hK := C.2.2.2.2.2.2.2.2.2.1
  refine W.anew C.1 C.2.1 C.2.2.2.1 (C.2.2.2.2.1 _ hcl) (va_AO.use (C.2.2.2.2.2.2.2.2.2.2.2.1 _ hao)) rfl hd rfl hn hb hc hs fun cA kA comp f1 f2 f3 f4 => ?_
  obtain ⟨kA', comp', k1, k2, k3, k4⟩ := (hK.2 t0 _ hr2).2
  have hcA : cA = X.2.2.1 (c0 - 8) := Option.some.inj (f1.symm.trans k4)
  generalize hH1 : H.push ({ cls := cA, slots := Array.replicate n.toNatClampNeg .null, vm := .none } : Cell) = H1
  have z1 : H1.size = H.size + 1 := by rw [← hH1, Array.size_push]
  have e1 : H1[H.size]? = some (arrV cA n.toNatClampNeg (fun _ => .null)) := by rw [← hH1, Array.getElem?_push_size, ← arrV_new]
  have o1 : ∀ q : Nat, q < H.size → H1[q]? = H[q]? := fun q hq => by rw [← hH1, Array.getElem?_push, if_neg (Nat.ne_of_lt hq)]
  have hsz : H.size = X.1 + S.1 := hP.1
  rw [hsz] at e1
  refine (show ∀ h, h = H.size → W p l e R s m args below meth c H1 locs (kc + 1) (sl + n.toNatClampNeg) (Q below args s) (F0 m (pc + 3) ls (.ref h :: st)) from fun h hh => ?_) H.size rfl
  rw [hh, hsz]
  refine kk p l e s m args below meth c H1 locs ls C (va_S_new hS z1 o1) (Wp_new hP z1 o1 ?_) hL
  rw [cell_ref (c := c0) (z := n.toNatClampNeg) ⟨by simp [nwS], by simp [nwS]⟩ hr3]
  show H1[X.1 + S.1]? = some (vp_cell _ _)
  rw [e1, vp_cell_q, hcA]
  congr 2
  funext q
  simp [nwS, va_rf]
/-- System.arraycopy over int[] -/
def m_cpy (mi : Mem) (a b sp dp n : Nat) : Mem := fun i k => if i = b ∧ dp ≤ k ∧ k < dp + n then mi a (sp + (k - dp)) else mi i k
theorem mw_acopy {idx a b za zb : Nat} {sp dp n : Int32} (hd : decode fr.2.1 pc = .ok (.invokestatic idx, 3)) (hl : Cond.methodLink fr.1.cls idx arraycopyName ∈ TW) (ha : Kd S a 8 za) (hb : Kd S b 8 zb) (h1 : ¬ sp < 0) (h2 : ¬ dp < 0) (h3 : ¬ n < 0) (h4 : sp.toNatClampNeg + n.toNatClampNeg ≤ za) (h5 : dp.toNatClampNeg + n.toNatClampNeg ≤ zb) (hr : (st.map fun v => v.category).sum ≤ 8) (hR : 1 ≤ R.frames ∧ 40 ≤ R.locals)
    (kk : MW X fr R kc sl (pc + 3) L st S (m_cpy mi a b sp.toNatClampNeg dp.toNatClampNeg n.toNatClampNeg) Q) : MW X fr R kc sl pc L (.int n :: .int dp :: .ref (X.1 + b) :: .int sp :: .ref (X.1 + a) :: st) S mi Q := by
  intro p l e s m args below meth c H locs ls C hS hP hL
  have nn : ∀ z : Int32, ¬ z < 0 → z.toInt = (z.toNatClampNeg : Int) := by
    intro z hz
    have hz0 : (0 : Int) ≤ z.toInt := by
      have := Int32.not_lt.mp hz
      simpa using Int32.le_iff_toInt_le.mp this
    show z.toInt = ((z.toInt.toNat : Nat) : Int)
    omega
  intro T hT Y
  have hca : H[X.1 + a]? = some (vp_cell (X.2.2.1 0) (za, .inl (mi a))) := by
    have := hP.2 a _ (ws_at ha.1)
    rw [cell_int ha (by decide) (by decide)] at this
    exact this
  have hcb : H[X.1 + b]? = some (vp_cell (X.2.2.1 0) (zb, .inl (mi b))) := by
    have := hP.2 b _ (ws_at hb.1)
    rw [cell_int hb (by decide) (by decide)] at this
    exact this
  have hK := C.2.2.2.2.2.2.2.2.2.1
  have hts := C.2.2.2.2.1
  obtain ⟨-, k0, hk0, cm0, hkk0⟩ := (hK.2 0 _ rfl).1 za (fun j => .int (mi a j))
  obtain ⟨-, k1, hk1, cm1, hkk1⟩ := (hK.2 0 _ rfl).1 zb (fun j => .int (mi b j))
  obtain ⟨vm', Y', step⟩ := Y.arraycopy C.1 C.2.2.2.1 (hts _ hl) (hts _ acopy_ok.1) (hts _ acopy_ok.2.1) (hts _ acopy_ok.2.2) (src := X.1 + a) (dst := X.1 + b) (cs := vp_cell (X.2.2.1 0) (za, .inl (mi a))) (cd := vp_cell (X.2.2.1 0) (zb, .inl (mi b))) (srcPos := sp) (destPos := dp) (n := n) (by rw [hT]; exact hca) (by rw [hT]; exact hcb)
    (fun _ h => by cases h) (fun _ h => by cases h) (fun h => by cases h) (fun h => by cases h) hk0 hk1 hkk0 hkk1 (by simp [refKind]) h1 h2 h3
    (by rw [nn sp h1, nn n h3]; show ¬ _ > ((arrV (X.2.2.1 0) za (fun j => .int (mi a j))).slots.size : Int); rw [arrV_size]; omega)
    (by rw [nn dp h2, nn n h3]; show ¬ _ > ((arrV (X.2.2.1 0) zb (fun j => .int (mi b j))).slots.size : Int); rw [arrV_size]; omega)
    (fun vm₁ _ i hi => by
      have e : (vp_cell (X.2.2.1 0) (za, .inl (mi a))).slots.getD (sp.toNatClampNeg + i) .null = .int (mi a (sp.toNatClampNeg + i)) := by
        show (arrV (X.2.2.1 0) za (fun j => .int (mi a j))).slots.getD _ _ = _
        rw [Array.getD_eq_getD_getElem?, arrV_read _ _ (by omega)]
        rfl
      refine ⟨?_, ?_⟩
      · rw [e]; rfl
      · rw [e]; exact trivial)
    (g := F0 m pc ls (.int n :: .int dp :: .ref (X.1 + b) :: .int sp :: .ref (X.1 + a) :: st)) rfl (by rw [C.2.2.1]; exact hL.2.1.1) (rest := st) rfl (by rw [C.2.1]; exact hd) hR.1 (by
      show 2 * 0 + _ + (nativeFrameWords "java/lang/System" "arraycopy" 5 + 11) ≤ _
      have : nativeFrameWords "java/lang/System" "arraycopy" 5 + 11 ≤ 32 := by decide +kernel
      omega)
  have ecp : copied (vp_cell (X.2.2.1 0) (za, .inl (mi a))) (vp_cell (X.2.2.1 0) (zb, .inl (mi b))) sp dp n = vp_cell (X.2.2.1 0) (zb, .inl (va_cpy (mi a) (mi b) sp.toNatClampNeg dp.toNatClampNeg n.toNatClampNeg)) := va_copied (fun z => .int z) (X.2.2.1 0) (X.2.2.1 0) (mi a) (mi b) h4
  rw [ecp] at Y' step
  have hlt : X.1 + b < H.size := (Array.getElem?_eq_some_iff.mp hcb).1
  generalize hcell : vp_cell (X.2.2.1 0) (zb, .inl (va_cpy (mi a) (mi b) sp.toNatClampNeg dp.toNatClampNeg n.toNatClampNeg)) = cell at Y' step
  have hheap : ((T.setVm vm').setCell (X.1 + b) cell).heap = H.setIfInBounds (X.1 + b) cell := by rw [← hT]; rfl
  have oq : ∀ q : Nat, q ≠ X.1 + b → (H.setIfInBounds (X.1 + b) cell)[q]? = H[q]? := fun q hq => by simp [Array.getElem?_setIfInBounds, Ne.symm hq]
  have hS1 : ∀ Lc : List Loc, (∀ q ∈ Lc, q.base = X.1 + b) → va_S (bA X) s.heap (H.setIfInBounds (X.1 + b) cell) (locs ++ Lc) := fun Lc hLc => ⟨by simp; exact hS.1, fun q g1 g2 => by
      rw [oq q (fun e => g2 (by rw [e]; exact Nat.le_add_right _ _))]
      exact hS.2.1 q g1 g2, fun q hq => by
      rcases List.mem_append.mp hq with h | h
      · exact hS.2.2 q h
      · show X.1 ≤ q.base
        rw [hLc q h]; exact Nat.le_add_right _ _⟩
  have hW1 : Wp X S (m_cpy mi a b sp.toNatClampNeg dp.toNatClampNeg n.toNatClampNeg) (H.setIfInBounds (X.1 + b) cell) := by
    refine Wp_put (i := b) hP rfl (fun j hj => cell_eq rfl (by funext q; simp [m_cpy, hj]) rfl) (by simp) oq ?_
    rw [cell_int hb (by decide) (by decide)]
    show (H.setIfInBounds (X.1 + b) cell)[X.1 + b]? = some (vp_cell _ _)
    rw [Array.getElem?_setIfInBounds]
    simp only [hlt, if_true, ← hcell]
    congr 4
    funext q
    simp [va_cpy, m_cpy]
  obtain ⟨t, a1, b1⟩ := kk p l e s m args below meth c _ _ ls C (hS1 _ (fun q hq => by
    obtain ⟨z, -, hz⟩ := List.mem_map.mp hq
    rw [← hz])) hW1 hL _ hheap Y'
  exact ⟨t, step t a1, b1⟩
end MWC
end
