section
-- ===== PART A: goes FIRST, ahead of the names: the tables' words, and 'selects' of the private methods out of them =====
/-- a private method of a class that the tables say can be made, by its rows of tables_1 -/
def lw_okq (q : MethodName × Nat) : Prop := (q.1.cls ≠ "java/lang/invoke/MethodHandle" ∧ q.1.cls ≠ "java/lang/invoke/VarHandle") ∧ Cond.instantiable q.1.cls q.2 ∈ tables_1 ∧ Cond.privateMethod q.1 ∈ tables_1 ∧ Cond.instanceMethod q.1 ∈ tables_1
theorem lw_p0 : lw_okq (⟨"AtticStars", "isAttic", "(I)Z"⟩, 10) := ⟨⟨by decide +kernel, by decide +kernel⟩, List.mem_of_getElem? (i := 18) (by decide +kernel), List.mem_of_getElem? (i := 281) (by decide +kernel), List.mem_of_getElem? (i := 282) (by decide +kernel)⟩
theorem lw_p1 : lw_okq (⟨"AtticStars$Town", "hidingFrom", "(LAtticStars$Attic;)I"⟩, 18) := ⟨⟨by decide +kernel, by decide +kernel⟩, List.mem_of_getElem? (i := 26) (by decide +kernel), List.mem_of_getElem? (i := 297) (by decide +kernel), List.mem_of_getElem? (i := 298) (by decide +kernel)⟩
theorem lw_p2 : lw_okq (⟨"AtticStars$Town", "plainRentOf", "(LAtticStars$Attic;I)I"⟩, 18) := ⟨⟨by decide +kernel, by decide +kernel⟩, List.mem_of_getElem? (i := 26) (by decide +kernel), List.mem_of_getElem? (i := 311) (by decide +kernel), List.mem_of_getElem? (i := 312) (by decide +kernel)⟩
theorem lw_p3 : lw_okq (⟨"AtticStars$Town", "textFor", "(I)LAtticStars$Text;"⟩, 18) := ⟨⟨by decide +kernel, by decide +kernel⟩, List.mem_of_getElem? (i := 26) (by decide +kernel), List.mem_of_getElem? (i := 315) (by decide +kernel), List.mem_of_getElem? (i := 316) (by decide +kernel)⟩
theorem lw_p4 : lw_okq (⟨"AtticStars$Town", "draw", "()I"⟩, 18) := ⟨⟨by decide +kernel, by decide +kernel⟩, List.mem_of_getElem? (i := 26) (by decide +kernel), List.mem_of_getElem? (i := 397) (by decide +kernel), List.mem_of_getElem? (i := 398) (by decide +kernel)⟩
theorem lw_p5 : lw_okq (⟨"AtticStars$Town", "viewOf", "(I)I"⟩, 18) := ⟨⟨by decide +kernel, by decide +kernel⟩, List.mem_of_getElem? (i := 26) (by decide +kernel), List.mem_of_getElem? (i := 455) (by decide +kernel), List.mem_of_getElem? (i := 456) (by decide +kernel)⟩
theorem lw_p6 : lw_okq (⟨"AtticStars", "bestOf", "(IIII)I"⟩, 10) := ⟨⟨by decide +kernel, by decide +kernel⟩, List.mem_of_getElem? (i := 18) (by decide +kernel), List.mem_of_getElem? (i := 487) (by decide +kernel), List.mem_of_getElem? (i := 488) (by decide +kernel)⟩
theorem lw_p7 : lw_okq (⟨"AtticStars", "measureDifferences", "(LAtticStars$Sheet;)V"⟩, 10) := ⟨⟨by decide +kernel, by decide +kernel⟩, List.mem_of_getElem? (i := 18) (by decide +kernel), List.mem_of_getElem? (i := 511) (by decide +kernel), List.mem_of_getElem? (i := 512) (by decide +kernel)⟩
theorem lw_p8 : lw_okq (⟨"AtticStars$Tape", "advance", "()V"⟩, 11) := ⟨⟨by decide +kernel, by decide +kernel⟩, List.mem_of_getElem? (i := 138) (by decide +kernel), List.mem_of_getElem? (i := 566) (by decide +kernel), List.mem_of_getElem? (i := 567) (by decide +kernel)⟩
theorem lw_p9 : lw_okq (⟨"AtticStars$Tape", "sortAt", "(I)I"⟩, 11) := ⟨⟨by decide +kernel, by decide +kernel⟩, List.mem_of_getElem? (i := 138) (by decide +kernel), List.mem_of_getElem? (i := 570) (by decide +kernel), List.mem_of_getElem? (i := 571) (by decide +kernel)⟩
theorem lw_p10 : lw_okq (⟨"AtticStars$Tape", "keyHere", "()I"⟩, 11) := ⟨⟨by decide +kernel, by decide +kernel⟩, List.mem_of_getElem? (i := 138) (by decide +kernel), List.mem_of_getElem? (i := 574) (by decide +kernel), List.mem_of_getElem? (i := 575) (by decide +kernel)⟩
theorem lw_p11 : lw_okq (⟨"AtticStars$Tape", "isHere", "(Ljava/lang/String;)Z"⟩, 11) := ⟨⟨by decide +kernel, by decide +kernel⟩, List.mem_of_getElem? (i := 138) (by decide +kernel), List.mem_of_getElem? (i := 579) (by decide +kernel), List.mem_of_getElem? (i := 580) (by decide +kernel)⟩
theorem lw_p12 : lw_okq (⟨"AtticStars$Tape", "readJoined", "(I)Z"⟩, 11) := ⟨⟨by decide +kernel, by decide +kernel⟩, List.mem_of_getElem? (i := 138) (by decide +kernel), List.mem_of_getElem? (i := 633) (by decide +kernel), List.mem_of_getElem? (i := 634) (by decide +kernel)⟩
theorem lw_p13 : lw_okq (⟨"AtticStars$Tape", "readPiece", "()Z"⟩, 11) := ⟨⟨by decide +kernel, by decide +kernel⟩, List.mem_of_getElem? (i := 138) (by decide +kernel), List.mem_of_getElem? (i := 637) (by decide +kernel), List.mem_of_getElem? (i := 638) (by decide +kernel)⟩
theorem lw_p14 : lw_okq (⟨"AtticStars$Tape", "numberHere", "()I"⟩, 11) := ⟨⟨by decide +kernel, by decide +kernel⟩, List.mem_of_getElem? (i := 138) (by decide +kernel), List.mem_of_getElem? (i := 641) (by decide +kernel), List.mem_of_getElem? (i := 642) (by decide +kernel)⟩
theorem lw_p15 : lw_okq (⟨"AtticStars$Tape", "readLeaf", "(I)Z"⟩, 11) := ⟨⟨by decide +kernel, by decide +kernel⟩, List.mem_of_getElem? (i := 138) (by decide +kernel), List.mem_of_getElem? (i := 645) (by decide +kernel), List.mem_of_getElem? (i := 646) (by decide +kernel)⟩
def lw_privs_1 : List (MethodName × Nat) := [(⟨"AtticStars", "isAttic", "(I)Z"⟩, 10), (⟨"AtticStars$Town", "hidingFrom", "(LAtticStars$Attic;)I"⟩, 18), (⟨"AtticStars$Town", "plainRentOf", "(LAtticStars$Attic;I)I"⟩, 18), (⟨"AtticStars$Town", "textFor", "(I)LAtticStars$Text;"⟩, 18), (⟨"AtticStars$Town", "draw", "()I"⟩, 18), (⟨"AtticStars$Town", "viewOf", "(I)I"⟩, 18), (⟨"AtticStars", "bestOf", "(IIII)I"⟩, 10), (⟨"AtticStars", "measureDifferences", "(LAtticStars$Sheet;)V"⟩, 10), (⟨"AtticStars$Tape", "advance", "()V"⟩, 11), (⟨"AtticStars$Tape", "sortAt", "(I)I"⟩, 11), (⟨"AtticStars$Tape", "keyHere", "()I"⟩, 11), (⟨"AtticStars$Tape", "isHere", "(Ljava/lang/String;)Z"⟩, 11), (⟨"AtticStars$Tape", "readJoined", "(I)Z"⟩, 11), (⟨"AtticStars$Tape", "readPiece", "()Z"⟩, 11), (⟨"AtticStars$Tape", "numberHere", "()I"⟩, 11), (⟨"AtticStars$Tape", "readLeaf", "(I)Z"⟩, 11)]
theorem lw_r1 : ∀ q ∈ lw_privs_1, lw_okq q := List.forall_mem_cons.mpr ⟨lw_p0, List.forall_mem_cons.mpr ⟨lw_p1, List.forall_mem_cons.mpr ⟨lw_p2, List.forall_mem_cons.mpr ⟨lw_p3, List.forall_mem_cons.mpr ⟨lw_p4, List.forall_mem_cons.mpr ⟨lw_p5, List.forall_mem_cons.mpr ⟨lw_p6, List.forall_mem_cons.mpr ⟨lw_p7, List.forall_mem_cons.mpr ⟨lw_p8, List.forall_mem_cons.mpr ⟨lw_p9, List.forall_mem_cons.mpr ⟨lw_p10, List.forall_mem_cons.mpr ⟨lw_p11, List.forall_mem_cons.mpr ⟨lw_p12, List.forall_mem_cons.mpr ⟨lw_p13, List.forall_mem_cons.mpr ⟨lw_p14, List.forall_mem_cons.mpr ⟨lw_p15, fun _ h => absurd h List.not_mem_nil⟩⟩⟩⟩⟩⟩⟩⟩⟩⟩⟩⟩⟩⟩⟩⟩
theorem lw_p16 : lw_okq (⟨"AtticStars$Tape", "addStep", "(I)V"⟩, 11) := ⟨⟨by decide +kernel, by decide +kernel⟩, List.mem_of_getElem? (i := 138) (by decide +kernel), List.mem_of_getElem? (i := 649) (by decide +kernel), List.mem_of_getElem? (i := 650) (by decide +kernel)⟩
theorem lw_p17 : lw_okq (⟨"AtticStars$Tape", "nameHere", "()I"⟩, 11) := ⟨⟨by decide +kernel, by decide +kernel⟩, List.mem_of_getElem? (i := 138) (by decide +kernel), List.mem_of_getElem? (i := 653) (by decide +kernel), List.mem_of_getElem? (i := 654) (by decide +kernel)⟩
theorem lw_p18 : lw_okq (⟨"AtticStars$Tape", "signHere", "()I"⟩, 11) := ⟨⟨by decide +kernel, by decide +kernel⟩, List.mem_of_getElem? (i := 138) (by decide +kernel), List.mem_of_getElem? (i := 715) (by decide +kernel), List.mem_of_getElem? (i := 716) (by decide +kernel)⟩
theorem lw_p19 : lw_okq (⟨"AtticStars$Tape", "readNot", "()Z"⟩, 11) := ⟨⟨by decide +kernel, by decide +kernel⟩, List.mem_of_getElem? (i := 138) (by decide +kernel), List.mem_of_getElem? (i := 719) (by decide +kernel), List.mem_of_getElem? (i := 720) (by decide +kernel)⟩
theorem lw_p20 : lw_okq (⟨"AtticStars$Tape", "readOpen", "()Z"⟩, 11) := ⟨⟨by decide +kernel, by decide +kernel⟩, List.mem_of_getElem? (i := 138) (by decide +kernel), List.mem_of_getElem? (i := 723) (by decide +kernel), List.mem_of_getElem? (i := 724) (by decide +kernel)⟩
theorem lw_p21 : lw_okq (⟨"AtticStarsModel", "comes", "(III)I"⟩, 34) := ⟨⟨by decide +kernel, by decide +kernel⟩, List.mem_of_getElem? (i := 844) (by decide +kernel), List.mem_of_getElem? (i := 967) (by decide +kernel), List.mem_of_getElem? (i := 968) (by decide +kernel)⟩
theorem lw_p22 : lw_okq (⟨"AtticStarsModel", "put", "(III)V"⟩, 34) := ⟨⟨by decide +kernel, by decide +kernel⟩, List.mem_of_getElem? (i := 844) (by decide +kernel), List.mem_of_getElem? (i := 971) (by decide +kernel), List.mem_of_getElem? (i := 972) (by decide +kernel)⟩
theorem lw_p23 : lw_okq (⟨"AtticStarsModel", "isAttic", "(I)Z"⟩, 34) := ⟨⟨by decide +kernel, by decide +kernel⟩, List.mem_of_getElem? (i := 844) (by decide +kernel), List.mem_of_getElem? (i := 979) (by decide +kernel), List.mem_of_getElem? (i := 980) (by decide +kernel)⟩
theorem lw_p24 : lw_okq (⟨"AtticStarsModel", "of", "(II)I"⟩, 34) := ⟨⟨by decide +kernel, by decide +kernel⟩, List.mem_of_getElem? (i := 844) (by decide +kernel), List.mem_of_getElem? (i := 983) (by decide +kernel), List.mem_of_getElem? (i := 984) (by decide +kernel)⟩
theorem lw_p25 : lw_okq (⟨"AtticStarsModel", "wideOf", "(I)I"⟩, 34) := ⟨⟨by decide +kernel, by decide +kernel⟩, List.mem_of_getElem? (i := 844) (by decide +kernel), List.mem_of_getElem? (i := 987) (by decide +kernel), List.mem_of_getElem? (i := 988) (by decide +kernel)⟩
theorem lw_p26 : lw_okq (⟨"AtticStarsModel", "wideBy", "(II)I"⟩, 34) := ⟨⟨by decide +kernel, by decide +kernel⟩, List.mem_of_getElem? (i := 844) (by decide +kernel), List.mem_of_getElem? (i := 991) (by decide +kernel), List.mem_of_getElem? (i := 992) (by decide +kernel)⟩
theorem lw_p27 : lw_okq (⟨"AtticStarsModel", "sees", "(I)I"⟩, 34) := ⟨⟨by decide +kernel, by decide +kernel⟩, List.mem_of_getElem? (i := 844) (by decide +kernel), List.mem_of_getElem? (i := 998) (by decide +kernel), List.mem_of_getElem? (i := 999) (by decide +kernel)⟩
theorem lw_p28 : lw_okq (⟨"AtticStarsModel", "standsAt", "(I)I"⟩, 34) := ⟨⟨by decide +kernel, by decide +kernel⟩, List.mem_of_getElem? (i := 844) (by decide +kernel), List.mem_of_getElem? (i := 1002) (by decide +kernel), List.mem_of_getElem? (i := 1003) (by decide +kernel)⟩
theorem lw_p29 : lw_okq (⟨"AtticStarsModel", "isHidden", "(II)Z"⟩, 34) := ⟨⟨by decide +kernel, by decide +kernel⟩, List.mem_of_getElem? (i := 844) (by decide +kernel), List.mem_of_getElem? (i := 1006) (by decide +kernel), List.mem_of_getElem? (i := 1007) (by decide +kernel)⟩
theorem lw_p30 : lw_okq (⟨"AtticStarsModel", "rentOf", "(I)I"⟩, 34) := ⟨⟨by decide +kernel, by decide +kernel⟩, List.mem_of_getElem? (i := 844) (by decide +kernel), List.mem_of_getElem? (i := 1010) (by decide +kernel), List.mem_of_getElem? (i := 1011) (by decide +kernel)⟩
theorem lw_p31 : lw_okq (⟨"AtticStarsModel", "counts", "(I)I"⟩, 34) := ⟨⟨by decide +kernel, by decide +kernel⟩, List.mem_of_getElem? (i := 844) (by decide +kernel), List.mem_of_getElem? (i := 1014) (by decide +kernel), List.mem_of_getElem? (i := 1015) (by decide +kernel)⟩
def lw_privs_2 : List (MethodName × Nat) := [(⟨"AtticStars$Tape", "addStep", "(I)V"⟩, 11), (⟨"AtticStars$Tape", "nameHere", "()I"⟩, 11), (⟨"AtticStars$Tape", "signHere", "()I"⟩, 11), (⟨"AtticStars$Tape", "readNot", "()Z"⟩, 11), (⟨"AtticStars$Tape", "readOpen", "()Z"⟩, 11), (⟨"AtticStarsModel", "comes", "(III)I"⟩, 34), (⟨"AtticStarsModel", "put", "(III)V"⟩, 34), (⟨"AtticStarsModel", "isAttic", "(I)Z"⟩, 34), (⟨"AtticStarsModel", "of", "(II)I"⟩, 34), (⟨"AtticStarsModel", "wideOf", "(I)I"⟩, 34), (⟨"AtticStarsModel", "wideBy", "(II)I"⟩, 34), (⟨"AtticStarsModel", "sees", "(I)I"⟩, 34), (⟨"AtticStarsModel", "standsAt", "(I)I"⟩, 34), (⟨"AtticStarsModel", "isHidden", "(II)Z"⟩, 34), (⟨"AtticStarsModel", "rentOf", "(I)I"⟩, 34), (⟨"AtticStarsModel", "counts", "(I)I"⟩, 34)]
theorem lw_r2 : ∀ q ∈ lw_privs_2, lw_okq q := List.forall_mem_cons.mpr ⟨lw_p16, List.forall_mem_cons.mpr ⟨lw_p17, List.forall_mem_cons.mpr ⟨lw_p18, List.forall_mem_cons.mpr ⟨lw_p19, List.forall_mem_cons.mpr ⟨lw_p20, List.forall_mem_cons.mpr ⟨lw_p21, List.forall_mem_cons.mpr ⟨lw_p22, List.forall_mem_cons.mpr ⟨lw_p23, List.forall_mem_cons.mpr ⟨lw_p24, List.forall_mem_cons.mpr ⟨lw_p25, List.forall_mem_cons.mpr ⟨lw_p26, List.forall_mem_cons.mpr ⟨lw_p27, List.forall_mem_cons.mpr ⟨lw_p28, List.forall_mem_cons.mpr ⟨lw_p29, List.forall_mem_cons.mpr ⟨lw_p30, List.forall_mem_cons.mpr ⟨lw_p31, fun _ h => absurd h List.not_mem_nil⟩⟩⟩⟩⟩⟩⟩⟩⟩⟩⟩⟩⟩⟩⟩⟩
theorem lw_p32 : lw_okq (⟨"AtticStarsModel", "pricesOf", "(I)I"⟩, 34) := ⟨⟨by decide +kernel, by decide +kernel⟩, List.mem_of_getElem? (i := 844) (by decide +kernel), List.mem_of_getElem? (i := 1018) (by decide +kernel), List.mem_of_getElem? (i := 1019) (by decide +kernel)⟩
theorem lw_p33 : lw_okq (⟨"AtticStarsModel", "worksOut", "(I)I"⟩, 34) := ⟨⟨by decide +kernel, by decide +kernel⟩, List.mem_of_getElem? (i := 844) (by decide +kernel), List.mem_of_getElem? (i := 1025) (by decide +kernel), List.mem_of_getElem? (i := 1026) (by decide +kernel)⟩
theorem lw_p34 : lw_okq (⟨"AtticStarsModel", "swaps", "(II)I"⟩, 34) := ⟨⟨by decide +kernel, by decide +kernel⟩, List.mem_of_getElem? (i := 844) (by decide +kernel), List.mem_of_getElem? (i := 1044) (by decide +kernel), List.mem_of_getElem? (i := 1045) (by decide +kernel)⟩
theorem lw_p35 : lw_okq (⟨"AtticStarsModel", "seers", "(I)I"⟩, 34) := ⟨⟨by decide +kernel, by decide +kernel⟩, List.mem_of_getElem? (i := 844) (by decide +kernel), List.mem_of_getElem? (i := 1063) (by decide +kernel), List.mem_of_getElem? (i := 1064) (by decide +kernel)⟩
theorem lw_p36 : lw_okq (⟨"AtticStarsModel", "draw", "()I"⟩, 34) := ⟨⟨by decide +kernel, by decide +kernel⟩, List.mem_of_getElem? (i := 844) (by decide +kernel), List.mem_of_getElem? (i := 1083) (by decide +kernel), List.mem_of_getElem? (i := 1084) (by decide +kernel)⟩
theorem lw_p37 : lw_okq (⟨"AtticStarsModel", "goesOn", "(I)V"⟩, 34) := ⟨⟨by decide +kernel, by decide +kernel⟩, List.mem_of_getElem? (i := 844) (by decide +kernel), List.mem_of_getElem? (i := 1096) (by decide +kernel), List.mem_of_getElem? (i := 1097) (by decide +kernel)⟩
theorem lw_p38 : lw_okq (⟨"AtticStarsModel", "hour", "()V"⟩, 34) := ⟨⟨by decide +kernel, by decide +kernel⟩, List.mem_of_getElem? (i := 844) (by decide +kernel), List.mem_of_getElem? (i := 1100) (by decide +kernel), List.mem_of_getElem? (i := 1101) (by decide +kernel)⟩
theorem lw_p39 : lw_okq (⟨"AtticStarsModel", "pays", "(I)V"⟩, 34) := ⟨⟨by decide +kernel, by decide +kernel⟩, List.mem_of_getElem? (i := 844) (by decide +kernel), List.mem_of_getElem? (i := 1104) (by decide +kernel), List.mem_of_getElem? (i := 1105) (by decide +kernel)⟩
theorem lw_p40 : lw_okq (⟨"AtticStarsModel", "sumOf", "(I)I"⟩, 34) := ⟨⟨by decide +kernel, by decide +kernel⟩, List.mem_of_getElem? (i := 844) (by decide +kernel), List.mem_of_getElem? (i := 1112) (by decide +kernel), List.mem_of_getElem? (i := 1113) (by decide +kernel)⟩
theorem lw_p41 : lw_okq (⟨"AtticStarsModel", "dark", "()I"⟩, 34) := ⟨⟨by decide +kernel, by decide +kernel⟩, List.mem_of_getElem? (i := 844) (by decide +kernel), List.mem_of_getElem? (i := 1116) (by decide +kernel), List.mem_of_getElem? (i := 1117) (by decide +kernel)⟩
theorem lw_p42 : lw_okq (⟨"AtticStarsModel", "thinks", "()V"⟩, 34) := ⟨⟨by decide +kernel, by decide +kernel⟩, List.mem_of_getElem? (i := 844) (by decide +kernel), List.mem_of_getElem? (i := 1129) (by decide +kernel), List.mem_of_getElem? (i := 1130) (by decide +kernel)⟩
theorem lw_p43 : lw_okq (⟨"AtticStarsModel", "putsBack", "()V"⟩, 34) := ⟨⟨by decide +kernel, by decide +kernel⟩, List.mem_of_getElem? (i := 844) (by decide +kernel), List.mem_of_getElem? (i := 1136) (by decide +kernel), List.mem_of_getElem? (i := 1137) (by decide +kernel)⟩
theorem lw_p44 : lw_okq (⟨"AtticStarsModel", "mostBy", "(IIII)I"⟩, 34) := ⟨⟨by decide +kernel, by decide +kernel⟩, List.mem_of_getElem? (i := 844) (by decide +kernel), List.mem_of_getElem? (i := 1152) (by decide +kernel), List.mem_of_getElem? (i := 1153) (by decide +kernel)⟩
theorem lw_p45 : lw_okq (⟨"AtticStarsModel", "go", "()V"⟩, 34) := ⟨⟨by decide +kernel, by decide +kernel⟩, List.mem_of_getElem? (i := 844) (by decide +kernel), List.mem_of_getElem? (i := 1195) (by decide +kernel), List.mem_of_getElem? (i := 1196) (by decide +kernel)⟩
theorem lw_p46 : lw_okq (⟨"AtticStarsModel", "isLetter", "(I)Z"⟩, 34) := ⟨⟨by decide +kernel, by decide +kernel⟩, List.mem_of_getElem? (i := 844) (by decide +kernel), List.mem_of_getElem? (i := 1199) (by decide +kernel), List.mem_of_getElem? (i := 1200) (by decide +kernel)⟩
theorem lw_p47 : lw_okq (⟨"AtticStarsModel", "isFigure", "(I)Z"⟩, 34) := ⟨⟨by decide +kernel, by decide +kernel⟩, List.mem_of_getElem? (i := 844) (by decide +kernel), List.mem_of_getElem? (i := 1203) (by decide +kernel), List.mem_of_getElem? (i := 1204) (by decide +kernel)⟩
def lw_privs_3 : List (MethodName × Nat) := [(⟨"AtticStarsModel", "pricesOf", "(I)I"⟩, 34), (⟨"AtticStarsModel", "worksOut", "(I)I"⟩, 34), (⟨"AtticStarsModel", "swaps", "(II)I"⟩, 34), (⟨"AtticStarsModel", "seers", "(I)I"⟩, 34), (⟨"AtticStarsModel", "draw", "()I"⟩, 34), (⟨"AtticStarsModel", "goesOn", "(I)V"⟩, 34), (⟨"AtticStarsModel", "hour", "()V"⟩, 34), (⟨"AtticStarsModel", "pays", "(I)V"⟩, 34), (⟨"AtticStarsModel", "sumOf", "(I)I"⟩, 34), (⟨"AtticStarsModel", "dark", "()I"⟩, 34), (⟨"AtticStarsModel", "thinks", "()V"⟩, 34), (⟨"AtticStarsModel", "putsBack", "()V"⟩, 34), (⟨"AtticStarsModel", "mostBy", "(IIII)I"⟩, 34), (⟨"AtticStarsModel", "go", "()V"⟩, 34), (⟨"AtticStarsModel", "isLetter", "(I)Z"⟩, 34), (⟨"AtticStarsModel", "isFigure", "(I)Z"⟩, 34)]
theorem lw_r3 : ∀ q ∈ lw_privs_3, lw_okq q := List.forall_mem_cons.mpr ⟨lw_p32, List.forall_mem_cons.mpr ⟨lw_p33, List.forall_mem_cons.mpr ⟨lw_p34, List.forall_mem_cons.mpr ⟨lw_p35, List.forall_mem_cons.mpr ⟨lw_p36, List.forall_mem_cons.mpr ⟨lw_p37, List.forall_mem_cons.mpr ⟨lw_p38, List.forall_mem_cons.mpr ⟨lw_p39, List.forall_mem_cons.mpr ⟨lw_p40, List.forall_mem_cons.mpr ⟨lw_p41, List.forall_mem_cons.mpr ⟨lw_p42, List.forall_mem_cons.mpr ⟨lw_p43, List.forall_mem_cons.mpr ⟨lw_p44, List.forall_mem_cons.mpr ⟨lw_p45, List.forall_mem_cons.mpr ⟨lw_p46, List.forall_mem_cons.mpr ⟨lw_p47, fun _ h => absurd h List.not_mem_nil⟩⟩⟩⟩⟩⟩⟩⟩⟩⟩⟩⟩⟩⟩⟩⟩
theorem lw_p48 : lw_okq (⟨"AtticStarsModel", "takesKey", "()Z"⟩, 34) := ⟨⟨by decide +kernel, by decide +kernel⟩, List.mem_of_getElem? (i := 844) (by decide +kernel), List.mem_of_getElem? (i := 1207) (by decide +kernel), List.mem_of_getElem? (i := 1208) (by decide +kernel)⟩
theorem lw_p49 : lw_okq (⟨"AtticStarsModel", "takesE", "()Z"⟩, 34) := ⟨⟨by decide +kernel, by decide +kernel⟩, List.mem_of_getElem? (i := 844) (by decide +kernel), List.mem_of_getElem? (i := 1211) (by decide +kernel), List.mem_of_getElem? (i := 1212) (by decide +kernel)⟩
theorem lw_p50 : lw_okq (⟨"AtticStarsModel", "takesPart", "()Z"⟩, 34) := ⟨⟨by decide +kernel, by decide +kernel⟩, List.mem_of_getElem? (i := 844) (by decide +kernel), List.mem_of_getElem? (i := 1215) (by decide +kernel), List.mem_of_getElem? (i := 1216) (by decide +kernel)⟩
theorem lw_p51 : lw_okq (⟨"AtticStarsModel", "nameOf", "(I)I"⟩, 34) := ⟨⟨by decide +kernel, by decide +kernel⟩, List.mem_of_getElem? (i := 844) (by decide +kernel), List.mem_of_getElem? (i := 1219) (by decide +kernel), List.mem_of_getElem? (i := 1220) (by decide +kernel)⟩
theorem lw_p52 : lw_okq (⟨"AtticStarsModel", "settle", "(I)V"⟩, 34) := ⟨⟨by decide +kernel, by decide +kernel⟩, List.mem_of_getElem? (i := 844) (by decide +kernel), List.mem_of_getElem? (i := 1223) (by decide +kernel), List.mem_of_getElem? (i := 1224) (by decide +kernel)⟩
theorem lw_p53 : lw_okq (⟨"AtticStarsModel", "notsOpen", "()I"⟩, 34) := ⟨⟨by decide +kernel, by decide +kernel⟩, List.mem_of_getElem? (i := 844) (by decide +kernel), List.mem_of_getElem? (i := 1230) (by decide +kernel), List.mem_of_getElem? (i := 1231) (by decide +kernel)⟩
theorem lw_p54 : lw_okq (⟨"AtticStarsModel", "signHere", "()I"⟩, 34) := ⟨⟨by decide +kernel, by decide +kernel⟩, List.mem_of_getElem? (i := 844) (by decide +kernel), List.mem_of_getElem? (i := 1234) (by decide +kernel), List.mem_of_getElem? (i := 1235) (by decide +kernel)⟩
theorem lw_p55 : lw_okq (⟨"AtticStarsModel", "worthOf", "(I)I"⟩, 34) := ⟨⟨by decide +kernel, by decide +kernel⟩, List.mem_of_getElem? (i := 844) (by decide +kernel), List.mem_of_getElem? (i := 1277) (by decide +kernel), List.mem_of_getElem? (i := 1278) (by decide +kernel)⟩
def lw_privs_4 : List (MethodName × Nat) := [(⟨"AtticStarsModel", "takesKey", "()Z"⟩, 34), (⟨"AtticStarsModel", "takesE", "()Z"⟩, 34), (⟨"AtticStarsModel", "takesPart", "()Z"⟩, 34), (⟨"AtticStarsModel", "nameOf", "(I)I"⟩, 34), (⟨"AtticStarsModel", "settle", "(I)V"⟩, 34), (⟨"AtticStarsModel", "notsOpen", "()I"⟩, 34), (⟨"AtticStarsModel", "signHere", "()I"⟩, 34), (⟨"AtticStarsModel", "worthOf", "(I)I"⟩, 34)]
theorem lw_r4 : ∀ q ∈ lw_privs_4, lw_okq q := List.forall_mem_cons.mpr ⟨lw_p48, List.forall_mem_cons.mpr ⟨lw_p49, List.forall_mem_cons.mpr ⟨lw_p50, List.forall_mem_cons.mpr ⟨lw_p51, List.forall_mem_cons.mpr ⟨lw_p52, List.forall_mem_cons.mpr ⟨lw_p53, List.forall_mem_cons.mpr ⟨lw_p54, List.forall_mem_cons.mpr ⟨lw_p55, fun _ h => absurd h List.not_mem_nil⟩⟩⟩⟩⟩⟩⟩⟩
def lw_privs : List (MethodName × Nat) := lw_privs_1 ++ (lw_privs_2 ++ (lw_privs_3 ++ (lw_privs_4)))
def lw_tbl : List Cond := k2_sels lw_privs ++ tables_1
theorem lw_privs_ok : ∀ q ∈ lw_privs, lw_okq q := by
  show ∀ q ∈ lw_privs_1 ++ (lw_privs_2 ++ (lw_privs_3 ++ (lw_privs_4))), lw_okq q
  exact List.forall_mem_append.mpr ⟨lw_r1, List.forall_mem_append.mpr ⟨lw_r2, List.forall_mem_append.mpr ⟨lw_r3, lw_r4⟩⟩⟩
end
section
def RX0 : String := "AtticStars$Attic"
def TX0 : u_T := fun k => match k with
  | 0 => ("AtticStars$Attic", "kind", "I", false)
  | 1 => ("AtticStars$Attic", "faces", "I", false)
  | 2 => ("AtticStars$Attic", "width", "I", false)
  | 3 => ("AtticStars$Attic", "coin", "I", false)
  | _ => ("AtticStars$Attic", "owes", "I", false)
def tyX0 : Nat → FieldType := fun k => match k with
  | 0 => .int
  | 1 => .int
  | 2 => .int
  | 3 => .int
  | _ => .int
abbrev wsX00 : List Cond := u_ws RX0 TX0 5
theorem nmX0 : ∀ a, a < 5 → ∀ b, b < 5 → a ≠ b → (TX0 a).2.1 ≠ (TX0 b).2.1 := by decide +kernel
theorem tyX0_ok : ∀ k, k < 5 → parseFieldDescriptor (TX0 k).2.2.1 = some (tyX0 k) := by decide +kernel
abbrev cX0_init : ByteArray := prog_2_method_1_code
def yX0_init : MethodName := ⟨RX0, "<init>", "()V"⟩
abbrev cX0_renew : ByteArray := prog_2_method_2_code
def yX0_renew : MethodName := ⟨RX0, "renew", "(III)V"⟩
abbrev cX0_takeAfter : ByteArray := prog_2_method_3_code
def yX0_takeAfter : MethodName := ⟨RX0, "takeAfter", "(LAtticStars$Attic;)V"⟩
abbrev cX0_isOf : ByteArray := prog_2_method_4_code
def yX0_isOf : MethodName := ⟨RX0, "isOf", "(I)Z"⟩
abbrev cX0_pay : ByteArray := prog_2_method_5_code
def yX0_pay : MethodName := ⟨RX0, "pay", "(I)I"⟩
abbrev cX0_earn : ByteArray := prog_2_method_6_code
def yX0_earn : MethodName := ⟨RX0, "earn", "(I)V"⟩
def RX1 : String := "AtticStars$Sheet"
def TX1 : u_T := fun k => match k with
  | 0 => ("AtticStars$Sheet", "places", "[I", true)
  | 1 => ("AtticStars$Sheet", "sort", "I", false)
  | _ => ("AtticStars$Sheet", "size", "I", false)
def tyX1 : Nat → FieldType := fun k => match k with
  | 0 => .array .int
  | 1 => .int
  | _ => .int
abbrev wsX10 : List Cond := u_ws RX1 TX1 3
theorem nmX1 : ∀ a, a < 3 → ∀ b, b < 3 → a ≠ b → (TX1 a).2.1 ≠ (TX1 b).2.1 := by decide +kernel
theorem tyX1_ok : ∀ k, k < 3 → parseFieldDescriptor (TX1 k).2.2.1 = some (tyX1 k) := by decide +kernel
abbrev cX1_init : ByteArray := prog_3_method_1_code
def yX1_init : MethodName := ⟨RX1, "<init>", "()V"⟩
abbrev cX1_renew : ByteArray := prog_3_method_2_code
def yX1_renew : MethodName := ⟨RX1, "renew", "(II)V"⟩
abbrev cX1_takeAfter : ByteArray := prog_3_method_3_code
def yX1_takeAfter : MethodName := ⟨RX1, "takeAfter", "(LAtticStars$Sheet;)V"⟩
abbrev cX1_hasPlace : ByteArray := prog_3_method_4_code
def yX1_hasPlace : MethodName := ⟨RX1, "hasPlace", "(I)Z"⟩
abbrev cX1_hasNumber : ByteArray := prog_3_method_5_code
def yX1_hasNumber : MethodName := ⟨RX1, "hasNumber", "(I)Z"⟩
abbrev cX1_hasPlaces : ByteArray := prog_3_method_6_code
def yX1_hasPlaces : MethodName := ⟨RX1, "hasPlaces", "(II)Z"⟩
def RX2 : String := "AtticStars$Slot"
def TX2 : u_T := fun k => match k with
  | 0 => ("AtticStars$Slot", "holds", "I", false)
  | 1 => ("AtticStars$Slot", "attic", "LAtticStars$Attic;", true)
  | 2 => ("AtticStars$Slot", "sheet", "LAtticStars$Sheet;", true)
  | _ => ("AtticStars$Slot", "number", "I", false)
def tyX2 : Nat → FieldType := fun k => match k with
  | 0 => .int
  | 1 => .object "AtticStars$Attic"
  | 2 => .object "AtticStars$Sheet"
  | _ => .int
abbrev wsX20 : List Cond := u_ws RX2 TX2 4
theorem nmX2 : ∀ a, a < 4 → ∀ b, b < 4 → a ≠ b → (TX2 a).2.1 ≠ (TX2 b).2.1 := by decide +kernel
theorem tyX2_ok : ∀ k, k < 4 → parseFieldDescriptor (TX2 k).2.2.1 = some (tyX2 k) := by decide +kernel
abbrev cX2_init : ByteArray := prog_4_method_1_code
def yX2_init : MethodName := ⟨RX2, "<init>", "()V"⟩
def RX3 : String := "AtticStars$Tape"
def TX3 : u_T := fun k => match k with
  | 0 => ("AtticStars$Tape", "bytes", "[I", true)
  | 1 => ("AtticStars$Tape", "length", "I", false)
  | 2 => ("AtticStars$Tape", "begin", "I", false)
  | 3 => ("AtticStars$Tape", "end", "I", false)
  | 4 => ("AtticStars$Tape", "sort", "I", false)
  | 5 => ("AtticStars$Tape", "key", "I", false)
  | 6 => ("AtticStars$Tape", "opens", "I", false)
  | 7 => ("AtticStars$Tape", "nots", "I", false)
  | 8 => ("AtticStars$Tape", "leaves", "I", false)
  | 9 => ("AtticStars$Tape", "steps", "[I", true)
  | _ => ("AtticStars$Tape", "stepCount", "I", false)
def tyX3 : Nat → FieldType := fun k => match k with
  | 0 => .array .int
  | 1 => .int
  | 2 => .int
  | 3 => .int
  | 4 => .int
  | 5 => .int
  | 6 => .int
  | 7 => .int
  | 8 => .int
  | 9 => .array .int
  | _ => .int
abbrev wsX30 : List Cond := u_ws RX3 TX3 11
theorem nmX3 : ∀ a, a < 11 → ∀ b, b < 11 → a ≠ b → (TX3 a).2.1 ≠ (TX3 b).2.1 := by decide +kernel
theorem tyX3_ok : ∀ k, k < 11 → parseFieldDescriptor (TX3 k).2.2.1 = some (tyX3 k) := by decide +kernel
abbrev cX3_init : ByteArray := prog_5_method_1_code
def yX3_init : MethodName := ⟨RX3, "<init>", "()V"⟩
abbrev cX3_append : ByteArray := prog_5_method_2_code
def yX3_append : MethodName := ⟨RX3, "append", "(I)V"⟩
abbrev cX3_readText : ByteArray := prog_5_method_3_code
def yX3_readText : MethodName := ⟨RX3, "readText", "()LAtticStars$Text;"⟩
abbrev cX3_advance : ByteArray := prog_5_method_4_code
def yX3_advance : MethodName := ⟨RX3, "advance", "()V"⟩
abbrev cX3_sortAt : ByteArray := prog_5_method_5_code
def yX3_sortAt : MethodName := ⟨RX3, "sortAt", "(I)I"⟩
abbrev cX3_signHere : ByteArray := prog_5_method_6_code
def yX3_signHere : MethodName := ⟨RX3, "signHere", "()I"⟩
abbrev cX3_keyHere : ByteArray := prog_5_method_7_code
def yX3_keyHere : MethodName := ⟨RX3, "keyHere", "()I"⟩
abbrev cX3_isHere : ByteArray := prog_5_method_8_code
def yX3_isHere : MethodName := ⟨RX3, "isHere", "(Ljava/lang/String;)Z"⟩
abbrev cX3_readJoined : ByteArray := prog_5_method_9_code
def yX3_readJoined : MethodName := ⟨RX3, "readJoined", "(I)Z"⟩
abbrev cX3_rankOf : ByteArray := prog_5_method_10_code
def yX3_rankOf : MethodName := ⟨RX3, "rankOf", "(I)I"⟩
abbrev cX3_readPiece : ByteArray := prog_5_method_11_code
def yX3_readPiece : MethodName := ⟨RX3, "readPiece", "()Z"⟩
abbrev cX3_readLeaf : ByteArray := prog_5_method_12_code
def yX3_readLeaf : MethodName := ⟨RX3, "readLeaf", "(I)Z"⟩
abbrev cX3_readNot : ByteArray := prog_5_method_13_code
def yX3_readNot : MethodName := ⟨RX3, "readNot", "()Z"⟩
abbrev cX3_readOpen : ByteArray := prog_5_method_14_code
def yX3_readOpen : MethodName := ⟨RX3, "readOpen", "()Z"⟩
abbrev cX3_numberHere : ByteArray := prog_5_method_15_code
def yX3_numberHere : MethodName := ⟨RX3, "numberHere", "()I"⟩
abbrev cX3_nameHere : ByteArray := prog_5_method_16_code
def yX3_nameHere : MethodName := ⟨RX3, "nameHere", "()I"⟩
abbrev cX3_addStep : ByteArray := prog_5_method_17_code
def yX3_addStep : MethodName := ⟨RX3, "addStep", "(I)V"⟩
def RX4 : String := "AtticStars$Text"
def TX4 : u_T := fun k => match k with
  | 0 => ("AtticStars$Text", "key", "I", true)
  | 1 => ("AtticStars$Text", "leaves", "I", true)
  | _ => ("AtticStars$Text", "steps", "[I", true)
def tyX4 : Nat → FieldType := fun k => match k with
  | 0 => .int
  | 1 => .int
  | _ => .array .int
abbrev wsX40 : List Cond := u_ws RX4 TX4 3
theorem nmX4 : ∀ a, a < 3 → ∀ b, b < 3 → a ≠ b → (TX4 a).2.1 ≠ (TX4 b).2.1 := by decide +kernel
theorem tyX4_ok : ∀ k, k < 3 → parseFieldDescriptor (TX4 k).2.2.1 = some (tyX4 k) := by decide +kernel
abbrev cX4_init : ByteArray := prog_6_method_1_code
def yX4_init : MethodName := ⟨RX4, "<init>", "(II[II)V"⟩
abbrev cX4_gives : ByteArray := prog_6_method_2_code
def yX4_gives : MethodName := ⟨RX4, "gives", "([I[I)I"⟩
abbrev cX4_joined : ByteArray := prog_6_method_3_code
def yX4_joined : MethodName := ⟨RX4, "joined", "(III)I"⟩
def RX5 : String := "AtticStars$Town"
def TX5 : u_T := fun k => match k with
  | 0 => ("AtticStars$Town", "home", "[I", true)
  | 1 => ("AtticStars$Town", "price", "[I", true)
  | 2 => ("AtticStars$Town", "attics", "[LAtticStars$Attic;", true)
  | 3 => ("AtticStars$Town", "atticCount", "I", false)
  | 4 => ("AtticStars$Town", "chimneys", "I", false)
  | 5 => ("AtticStars$Town", "clouds", "I", false)
  | 6 => ("AtticStars$Town", "smoke", "I", false)
  | 7 => ("AtticStars$Town", "wage", "I", false)
  | 8 => ("AtticStars$Town", "taken", "I", false)
  | 9 => ("AtticStars$Town", "prayed", "I", false)
  | 10 => ("AtticStars$Town", "hour", "I", false)
  | 11 => ("AtticStars$Town", "z", "I", false)
  | 12 => ("AtticStars$Town", "texts", "[LAtticStars$Text;", true)
  | 13 => ("AtticStars$Town", "textCount", "I", false)
  | 14 => ("AtticStars$Town", "counting", "[I", true)
  | 15 => ("AtticStars$Town", "names", "[I", true)
  | 16 => ("AtticStars$Town", "pile", "[I", true)
  | _ => ("AtticStars$Town", "views", "[I", true)
def tyX5 : Nat → FieldType := fun k => match k with
  | 0 => .array .int
  | 1 => .array .int
  | 2 => .array (.object "AtticStars$Attic")
  | 3 => .int
  | 4 => .int
  | 5 => .int
  | 6 => .int
  | 7 => .int
  | 8 => .int
  | 9 => .int
  | 10 => .int
  | 11 => .int
  | 12 => .array (.object "AtticStars$Text")
  | 13 => .int
  | 14 => .array .int
  | 15 => .array .int
  | 16 => .array .int
  | _ => .array .int
abbrev wsX50 : List Cond := u_ws RX5 TX5 18
theorem nmX5 : ∀ a, a < 18 → ∀ b, b < 18 → a ≠ b → (TX5 a).2.1 ≠ (TX5 b).2.1 := by decide +kernel
theorem tyX5_ok : ∀ k, k < 18 → parseFieldDescriptor (TX5 k).2.2.1 = some (tyX5 k) := by decide +kernel
abbrev cX5_init : ByteArray := prog_7_method_1_code
def yX5_init : MethodName := ⟨RX5, "<init>", "()V"⟩
abbrev cX5_takeAfter : ByteArray := prog_7_method_2_code
def yX5_takeAfter : MethodName := ⟨RX5, "takeAfter", "(LAtticStars$Town;)V"⟩
abbrev cX5_addAttic : ByteArray := prog_7_method_3_code
def yX5_addAttic : MethodName := ⟨RX5, "addAttic", "(III)I"⟩
abbrev cX5_drawAttic : ByteArray := prog_7_method_4_code
def yX5_drawAttic : MethodName := ⟨RX5, "drawAttic", "()V"⟩
abbrev cX5_addText : ByteArray := prog_7_method_5_code
def yX5_addText : MethodName := ⟨RX5, "addText", "(LAtticStars$Text;)I"⟩
abbrev cX5_draw : ByteArray := prog_7_method_6_code
def yX5_draw : MethodName := ⟨RX5, "draw", "()I"⟩
abbrev cX5_passHour : ByteArray := prog_7_method_7_code
def yX5_passHour : MethodName := ⟨RX5, "passHour", "()V"⟩
abbrev cX5_choose : ByteArray := prog_7_method_8_code
def yX5_choose : MethodName := ⟨RX5, "choose", "(III)Z"⟩
abbrev cX5_bearingOf : ByteArray := prog_7_method_9_code
def yX5_bearingOf : MethodName := ⟨RX5, "bearingOf", "(I)I"⟩
abbrev cX5_wideOf : ByteArray := prog_7_method_10_code
def yX5_wideOf : MethodName := ⟨RX5, "wideOf", "(LAtticStars$Attic;)I"⟩
abbrev cX5_hidingFrom : ByteArray := prog_7_method_11_code
def yX5_hidingFrom : MethodName := ⟨RX5, "hidingFrom", "(LAtticStars$Attic;)I"⟩
abbrev cX5_seenBy : ByteArray := prog_7_method_12_code
def yX5_seenBy : MethodName := ⟨RX5, "seenBy", "(LAtticStars$Attic;)I"⟩
abbrev cX5_watchersOf : ByteArray := prog_7_method_13_code
def yX5_watchersOf : MethodName := ⟨RX5, "watchersOf", "(I)I"⟩
abbrev cX5_dark : ByteArray := prog_7_method_14_code
def yX5_dark : MethodName := ⟨RX5, "dark", "()I"⟩
abbrev cX5_fewestFor : ByteArray := prog_7_method_15_code
def yX5_fewestFor : MethodName := ⟨RX5, "fewestFor", "(I)I"⟩
abbrev cX5_viewOf : ByteArray := prog_7_method_16_code
def yX5_viewOf : MethodName := ⟨RX5, "viewOf", "(I)I"⟩
abbrev cX5_rentOf : ByteArray := prog_7_method_17_code
def yX5_rentOf : MethodName := ⟨RX5, "rentOf", "(LAtticStars$Attic;)I"⟩
abbrev cX5_plainRentOf : ByteArray := prog_7_method_18_code
def yX5_plainRentOf : MethodName := ⟨RX5, "plainRentOf", "(LAtticStars$Attic;I)I"⟩
abbrev cX5_feeGives : ByteArray := prog_7_method_19_code
def yX5_feeGives : MethodName := ⟨RX5, "feeGives", "()I"⟩
abbrev cX5_fineGives : ByteArray := prog_7_method_20_code
def yX5_fineGives : MethodName := ⟨RX5, "fineGives", "(LAtticStars$Attic;)I"⟩
abbrev cX5_textFor : ByteArray := prog_7_method_21_code
def yX5_textFor : MethodName := ⟨RX5, "textFor", "(I)LAtticStars$Text;"⟩
abbrev cX5_owedByAll : ByteArray := prog_7_method_22_code
def yX5_owedByAll : MethodName := ⟨RX5, "owedByAll", "()I"⟩
abbrev cX5_coinOfAll : ByteArray := prog_7_method_23_code
def yX5_coinOfAll : MethodName := ⟨RX5, "coinOfAll", "()I"⟩
abbrev cX5_rentOfAll : ByteArray := prog_7_method_24_code
def yX5_rentOfAll : MethodName := ⟨RX5, "rentOfAll", "()I"⟩
def RX6 : String := "AtticStars"
def TX6 : u_T := fun k => match k with
  | 0 => ("AtticStars", "now", "LAtticStars$Town;", true)
  | 1 => ("AtticStars", "thought", "LAtticStars$Town;", true)
  | 2 => ("AtticStars", "image", "LAtticStars$Town;", true)
  | 3 => ("AtticStars", "imageKept", "Z", false)
  | 4 => ("AtticStars", "tape", "LAtticStars$Tape;", true)
  | 5 => ("AtticStars", "sheets", "[LAtticStars$Sheet;", true)
  | 6 => ("AtticStars", "slots", "[LAtticStars$Slot;", true)
  | 7 => ("AtticStars", "waiting", "[I", true)
  | 8 => ("AtticStars", "waits", "I", false)
  | _ => ("AtticStars", "differences", "[I", true)
def tyX6 : Nat → FieldType := fun k => match k with
  | 0 => .object "AtticStars$Town"
  | 1 => .object "AtticStars$Town"
  | 2 => .object "AtticStars$Town"
  | 3 => .boolean
  | 4 => .object "AtticStars$Tape"
  | 5 => .array (.object "AtticStars$Sheet")
  | 6 => .array (.object "AtticStars$Slot")
  | 7 => .array .int
  | 8 => .int
  | _ => .array .int
abbrev wsX60 : List Cond := u_ws RX6 TX6 10
theorem nmX6 : ∀ a, a < 10 → ∀ b, b < 10 → a ≠ b → (TX6 a).2.1 ≠ (TX6 b).2.1 := by decide +kernel
theorem tyX6_ok : ∀ k, k < 10 → parseFieldDescriptor (TX6 k).2.2.1 = some (tyX6 k) := by decide +kernel
abbrev cX6_init : ByteArray := prog_1_method_1_code
def yX6_init : MethodName := ⟨RX6, "<init>", "()V"⟩
abbrev cX6_attic : ByteArray := prog_1_method_2_code
def yX6_attic : MethodName := ⟨RX6, "attic", "(III)I"⟩
abbrev cX6_told : ByteArray := prog_1_method_3_code
def yX6_told : MethodName := ⟨RX6, "told", "(II)I"⟩
abbrev cX6_as : ByteArray := prog_1_method_4_code
def yX6_as : MethodName := ⟨RX6, "as", "(II)I"⟩
abbrev cX6_turns : ByteArray := prog_1_method_5_code
def yX6_turns : MethodName := ⟨RX6, "turns", "(II)I"⟩
abbrev cX6_set : ByteArray := prog_1_method_6_code
def yX6_set : MethodName := ⟨RX6, "set", "(III)I"⟩
abbrev cX6_star : ByteArray := prog_1_method_7_code
def yX6_star : MethodName := ⟨RX6, "star", "(III)I"⟩
abbrev cX6_starOf : ByteArray := prog_1_method_8_code
def yX6_starOf : MethodName := ⟨RX6, "starOf", "(II)I"⟩
abbrev cX6_chimney : ByteArray := prog_1_method_9_code
def yX6_chimney : MethodName := ⟨RX6, "chimney", "(II)I"⟩
abbrev cX6_smokes : ByteArray := prog_1_method_10_code
def yX6_smokes : MethodName := ⟨RX6, "smokes", "(I)I"⟩
abbrev cX6_rule : ByteArray := prog_1_method_11_code
def yX6_rule : MethodName := ⟨RX6, "rule", "(II)I"⟩
abbrev cX6_deal : ByteArray := prog_1_method_12_code
def yX6_deal : MethodName := ⟨RX6, "deal", "(I)I"⟩
abbrev cX6_seed : ByteArray := prog_1_method_13_code
def yX6_seed : MethodName := ⟨RX6, "seed", "(I)I"⟩
abbrev cX6_hours : ByteArray := prog_1_method_14_code
def yX6_hours : MethodName := ⟨RX6, "hours", "(I)I"⟩
abbrev cX6_town : ByteArray := prog_1_method_15_code
def yX6_town : MethodName := ⟨RX6, "town", "(I)I"⟩
abbrev cX6_cover : ByteArray := prog_1_method_16_code
def yX6_cover : MethodName := ⟨RX6, "cover", "(I)I"⟩
abbrev cX6_behind : ByteArray := prog_1_method_17_code
def yX6_behind : MethodName := ⟨RX6, "behind", "(II)I"⟩
abbrev cX6_debt : ByteArray := prog_1_method_18_code
def yX6_debt : MethodName := ⟨RX6, "debt", "(II)I"⟩
abbrev cX6_rises : ByteArray := prog_1_method_19_code
def yX6_rises : MethodName := ⟨RX6, "rises", "(II)I"⟩
abbrev cX6_turned : ByteArray := prog_1_method_20_code
def yX6_turned : MethodName := ⟨RX6, "turned", "(III)I"⟩
abbrev cX6_stands : ByteArray := prog_1_method_21_code
def yX6_stands : MethodName := ⟨RX6, "stands", "(II)I"⟩
abbrev cX6_becomes : ByteArray := prog_1_method_22_code
def yX6_becomes : MethodName := ⟨RX6, "becomes", "(III)I"⟩
abbrev cX6_like : ByteArray := prog_1_method_23_code
def yX6_like : MethodName := ⟨RX6, "like", "(II)I"⟩
abbrev cX6_fee : ByteArray := prog_1_method_24_code
def yX6_fee : MethodName := ⟨RX6, "fee", "()I"⟩
abbrev cX6_fine : ByteArray := prog_1_method_25_code
def yX6_fine : MethodName := ⟨RX6, "fine", "(I)I"⟩
abbrev cX6_feed : ByteArray := prog_1_method_26_code
def yX6_feed : MethodName := ⟨RX6, "feed", "(III)I"⟩
abbrev cX6_trim : ByteArray := prog_1_method_27_code
def yX6_trim : MethodName := ⟨RX6, "trim", "(I)I"⟩
abbrev cX6_text : ByteArray := prog_1_method_28_code
def yX6_text : MethodName := ⟨RX6, "text", "()I"⟩
abbrev cX6_textTold : ByteArray := prog_1_method_29_code
def yX6_textTold : MethodName := ⟨RX6, "textTold", "(II)I"⟩
abbrev cX6_why : ByteArray := prog_1_method_30_code
def yX6_why : MethodName := ⟨RX6, "why", "(I)I"⟩
abbrev cX6_sheet : ByteArray := prog_1_method_31_code
def yX6_sheet : MethodName := ⟨RX6, "sheet", "(III)I"⟩
abbrev cX6_mark : ByteArray := prog_1_method_32_code
def yX6_mark : MethodName := ⟨RX6, "mark", "(III)I"⟩
abbrev cX6_pour : ByteArray := prog_1_method_33_code
def yX6_pour : MethodName := ⟨RX6, "pour", "(I)I"⟩
abbrev cX6_reads : ByteArray := prog_1_method_34_code
def yX6_reads : MethodName := ⟨RX6, "reads", "(I)I"⟩
abbrev cX6_copy : ByteArray := prog_1_method_35_code
def yX6_copy : MethodName := ⟨RX6, "copy", "(IIIII)I"⟩
abbrev cX6_lay : ByteArray := prog_1_method_36_code
def yX6_lay : MethodName := ⟨RX6, "lay", "(III)I"⟩
abbrev cX6_ask : ByteArray := prog_1_method_37_code
def yX6_ask : MethodName := ⟨RX6, "ask", "(II)I"⟩
abbrev cX6_item : ByteArray := prog_1_method_38_code
def yX6_item : MethodName := ⟨RX6, "item", "(II)I"⟩
abbrev cX6_rest : ByteArray := prog_1_method_39_code
def yX6_rest : MethodName := ⟨RX6, "rest", "(II)I"⟩
abbrev cX6_tell : ByteArray := prog_1_method_40_code
def yX6_tell : MethodName := ⟨RX6, "tell", "(I)I"⟩
abbrev cX6_check : ByteArray := prog_1_method_41_code
def yX6_check : MethodName := ⟨RX6, "check", "(I)I"⟩
abbrev cX6_keep : ByteArray := prog_1_method_42_code
def yX6_keep : MethodName := ⟨RX6, "keep", "()I"⟩
abbrev cX6_back : ByteArray := prog_1_method_43_code
def yX6_back : MethodName := ⟨RX6, "back", "()I"⟩
abbrev cX6_count : ByteArray := prog_1_method_44_code
def yX6_count : MethodName := ⟨RX6, "count", "(I)I"⟩
abbrev cX6_within : ByteArray := prog_1_method_45_code
def yX6_within : MethodName := ⟨RX6, "within", "(III)Z"⟩
abbrev cX6_held : ByteArray := prog_1_method_46_code
def yX6_held : MethodName := ⟨RX6, "held", "(II)I"⟩
abbrev cX6_isBearing : ByteArray := prog_1_method_47_code
def yX6_isBearing : MethodName := ⟨RX6, "isBearing", "(I)Z"⟩
abbrev cX6_isStar : ByteArray := prog_1_method_48_code
def yX6_isStar : MethodName := ⟨RX6, "isStar", "(I)Z"⟩
abbrev cX6_isSheet : ByteArray := prog_1_method_49_code
def yX6_isSheet : MethodName := ⟨RX6, "isSheet", "(I)Z"⟩
abbrev cX6_isSlot : ByteArray := prog_1_method_50_code
def yX6_isSlot : MethodName := ⟨RX6, "isSlot", "(I)Z"⟩
abbrev cX6_isAttic : ByteArray := prog_1_method_51_code
def yX6_isAttic : MethodName := ⟨RX6, "isAttic", "(I)Z"⟩
abbrev cX6_bestOf : ByteArray := prog_1_method_52_code
def yX6_bestOf : MethodName := ⟨RX6, "bestOf", "(IIII)I"⟩
abbrev cX6_measureDifferences : ByteArray := prog_1_method_53_code
def yX6_measureDifferences : MethodName := ⟨RX6, "measureDifferences", "(LAtticStars$Sheet;)V"⟩
def RX7 : String := "AtticStarsModel"
def TX7 : u_T := fun k => match k with
  | 0 => ("AtticStarsModel", "now", "[I", true)
  | 1 => ("AtticStarsModel", "image", "[I", true)
  | 2 => ("AtticStarsModel", "aside", "[I", true)
  | 3 => ("AtticStarsModel", "hasImage", "Z", false)
  | 4 => ("AtticStarsModel", "seen", "[I", true)
  | 5 => ("AtticStarsModel", "unlike", "[I", true)
  | 6 => ("AtticStarsModel", "tape", "[I", true)
  | 7 => ("AtticStarsModel", "taped", "I", false)
  | 8 => ("AtticStarsModel", "next", "I", false)
  | 9 => ("AtticStarsModel", "from", "I", false)
  | 10 => ("AtticStarsModel", "token", "I", false)
  | 11 => ("AtticStarsModel", "value", "I", false)
  | 12 => ("AtticStarsModel", "ended", "I", false)
  | 13 => ("AtticStarsModel", "key", "I", false)
  | 14 => ("AtticStarsModel", "keys", "[C", true)
  | 15 => ("AtticStarsModel", "keyAt", "[I", true)
  | 16 => ("AtticStarsModel", "code", "[I", true)
  | 17 => ("AtticStarsModel", "codes", "I", false)
  | 18 => ("AtticStarsModel", "atoms", "I", false)
  | 19 => ("AtticStarsModel", "waits", "[I", true)
  | 20 => ("AtticStarsModel", "held", "I", false)
  | 21 => ("AtticStarsModel", "tested", "[Z", true)
  | 22 => ("AtticStarsModel", "stack", "[I", true)
  | 23 => ("AtticStarsModel", "facts", "[I", true)
  | 24 => ("AtticStarsModel", "sorts", "[I", true)
  | 25 => ("AtticStarsModel", "sizes", "[I", true)
  | 26 => ("AtticStarsModel", "cells", "[I", true)
  | 27 => ("AtticStarsModel", "holds", "[I", true)
  | 28 => ("AtticStarsModel", "holdsA", "[I", true)
  | 29 => ("AtticStarsModel", "holdsB", "[I", true)
  | 30 => ("AtticStarsModel", "heldCells", "[I", true)
  | 31 => ("AtticStarsModel", "moved", "[I", true)
  | 32 => ("AtticStarsModel", "tells", "[I", true)
  | _ => ("AtticStarsModel", "waiting", "I", false)
def tyX7 : Nat → FieldType := fun k => match k with
  | 0 => .array .int
  | 1 => .array .int
  | 2 => .array .int
  | 3 => .boolean
  | 4 => .array .int
  | 5 => .array .int
  | 6 => .array .int
  | 7 => .int
  | 8 => .int
  | 9 => .int
  | 10 => .int
  | 11 => .int
  | 12 => .int
  | 13 => .int
  | 14 => .array .char
  | 15 => .array .int
  | 16 => .array .int
  | 17 => .int
  | 18 => .int
  | 19 => .array .int
  | 20 => .int
  | 21 => .array .boolean
  | 22 => .array .int
  | 23 => .array .int
  | 24 => .array .int
  | 25 => .array .int
  | 26 => .array .int
  | 27 => .array .int
  | 28 => .array .int
  | 29 => .array .int
  | 30 => .array .int
  | 31 => .array .int
  | 32 => .array .int
  | _ => .int
abbrev wsX70 : List Cond := u_ws RX7 TX7 34
theorem nmX7 : ∀ a, a < 34 → ∀ b, b < 34 → a ≠ b → (TX7 a).2.1 ≠ (TX7 b).2.1 := by decide +kernel
theorem tyX7_ok : ∀ k, k < 34 → parseFieldDescriptor (TX7 k).2.2.1 = some (tyX7 k) := by decide +kernel
abbrev cX7_init : ByteArray := prog_9_method_1_code
def yX7_init : MethodName := ⟨RX7, "<init>", "()V"⟩
abbrev cX7_in : ByteArray := prog_9_method_2_code
def yX7_in : MethodName := ⟨RX7, "in", "(III)Z"⟩
abbrev cX7_within : ByteArray := prog_9_method_3_code
def yX7_within : MethodName := ⟨RX7, "within", "(III)I"⟩
abbrev cX7_copyAll : ByteArray := prog_9_method_4_code
def yX7_copyAll : MethodName := ⟨RX7, "copyAll", "([I[I)V"⟩
abbrev cX7_bits : ByteArray := prog_9_method_5_code
def yX7_bits : MethodName := ⟨RX7, "bits", "(I)I"⟩
abbrev cX7_isAttic : ByteArray := prog_9_method_6_code
def yX7_isAttic : MethodName := ⟨RX7, "isAttic", "(I)Z"⟩
abbrev cX7_isStar : ByteArray := prog_9_method_7_code
def yX7_isStar : MethodName := ⟨RX7, "isStar", "(I)Z"⟩
abbrev cX7_isBearing : ByteArray := prog_9_method_8_code
def yX7_isBearing : MethodName := ⟨RX7, "isBearing", "(I)Z"⟩
abbrev cX7_of : ByteArray := prog_9_method_9_code
def yX7_of : MethodName := ⟨RX7, "of", "(II)I"⟩
abbrev cX7_put : ByteArray := prog_9_method_10_code
def yX7_put : MethodName := ⟨RX7, "put", "(III)V"⟩
abbrev cX7_swaps : ByteArray := prog_9_method_11_code
def yX7_swaps : MethodName := ⟨RX7, "swaps", "(II)I"⟩
abbrev cX7_off : ByteArray := prog_9_method_12_code
def yX7_off : MethodName := ⟨RX7, "off", "(I)I"⟩
abbrev cX7_wideBy : ByteArray := prog_9_method_13_code
def yX7_wideBy : MethodName := ⟨RX7, "wideBy", "(II)I"⟩
abbrev cX7_wideOf : ByteArray := prog_9_method_14_code
def yX7_wideOf : MethodName := ⟨RX7, "wideOf", "(I)I"⟩
abbrev cX7_worthOf : ByteArray := prog_9_method_15_code
def yX7_worthOf : MethodName := ⟨RX7, "worthOf", "(I)I"⟩
abbrev cX7_standsAt : ByteArray := prog_9_method_16_code
def yX7_standsAt : MethodName := ⟨RX7, "standsAt", "(I)I"⟩
abbrev cX7_isHidden : ByteArray := prog_9_method_17_code
def yX7_isHidden : MethodName := ⟨RX7, "isHidden", "(II)Z"⟩
abbrev cX7_sees : ByteArray := prog_9_method_18_code
def yX7_sees : MethodName := ⟨RX7, "sees", "(I)I"⟩
abbrev cX7_pricesOf : ByteArray := prog_9_method_19_code
def yX7_pricesOf : MethodName := ⟨RX7, "pricesOf", "(I)I"⟩
abbrev cX7_rentOf : ByteArray := prog_9_method_20_code
def yX7_rentOf : MethodName := ⟨RX7, "rentOf", "(I)I"⟩
abbrev cX7_comes : ByteArray := prog_9_method_21_code
def yX7_comes : MethodName := ⟨RX7, "comes", "(III)I"⟩
abbrev cX7_attic : ByteArray := prog_9_method_22_code
def yX7_attic : MethodName := ⟨RX7, "attic", "(III)I"⟩
abbrev cX7_told : ByteArray := prog_9_method_23_code
def yX7_told : MethodName := ⟨RX7, "told", "(II)I"⟩
abbrev cX7_isUnder : ByteArray := prog_9_method_24_code
def yX7_isUnder : MethodName := ⟨RX7, "isUnder", "(II)Z"⟩
abbrev cX7_as : ByteArray := prog_9_method_25_code
def yX7_as : MethodName := ⟨RX7, "as", "(II)I"⟩
abbrev cX7_turns : ByteArray := prog_9_method_26_code
def yX7_turns : MethodName := ⟨RX7, "turns", "(II)I"⟩
abbrev cX7_set : ByteArray := prog_9_method_27_code
def yX7_set : MethodName := ⟨RX7, "set", "(III)I"⟩
abbrev cX7_star : ByteArray := prog_9_method_28_code
def yX7_star : MethodName := ⟨RX7, "star", "(III)I"⟩
abbrev cX7_seers : ByteArray := prog_9_method_29_code
def yX7_seers : MethodName := ⟨RX7, "seers", "(I)I"⟩
abbrev cX7_starOf : ByteArray := prog_9_method_30_code
def yX7_starOf : MethodName := ⟨RX7, "starOf", "(II)I"⟩
abbrev cX7_chimney : ByteArray := prog_9_method_31_code
def yX7_chimney : MethodName := ⟨RX7, "chimney", "(II)I"⟩
abbrev cX7_smokes : ByteArray := prog_9_method_32_code
def yX7_smokes : MethodName := ⟨RX7, "smokes", "(I)I"⟩
abbrev cX7_rule : ByteArray := prog_9_method_33_code
def yX7_rule : MethodName := ⟨RX7, "rule", "(II)I"⟩
abbrev cX7_draw : ByteArray := prog_9_method_34_code
def yX7_draw : MethodName := ⟨RX7, "draw", "()I"⟩
abbrev cX7_deal : ByteArray := prog_9_method_35_code
def yX7_deal : MethodName := ⟨RX7, "deal", "(I)I"⟩
abbrev cX7_seed : ByteArray := prog_9_method_36_code
def yX7_seed : MethodName := ⟨RX7, "seed", "(I)I"⟩
abbrev cX7_pays : ByteArray := prog_9_method_37_code
def yX7_pays : MethodName := ⟨RX7, "pays", "(I)V"⟩
abbrev cX7_hour : ByteArray := prog_9_method_38_code
def yX7_hour : MethodName := ⟨RX7, "hour", "()V"⟩
abbrev cX7_goesOn : ByteArray := prog_9_method_39_code
def yX7_goesOn : MethodName := ⟨RX7, "goesOn", "(I)V"⟩
abbrev cX7_hours : ByteArray := prog_9_method_40_code
def yX7_hours : MethodName := ⟨RX7, "hours", "(I)I"⟩
abbrev cX7_sumOf : ByteArray := prog_9_method_41_code
def yX7_sumOf : MethodName := ⟨RX7, "sumOf", "(I)I"⟩
abbrev cX7_dark : ByteArray := prog_9_method_42_code
def yX7_dark : MethodName := ⟨RX7, "dark", "()I"⟩
abbrev cX7_town : ByteArray := prog_9_method_43_code
def yX7_town : MethodName := ⟨RX7, "town", "(I)I"⟩
abbrev cX7_cover : ByteArray := prog_9_method_44_code
def yX7_cover : MethodName := ⟨RX7, "cover", "(I)I"⟩
abbrev cX7_thinks : ByteArray := prog_9_method_45_code
def yX7_thinks : MethodName := ⟨RX7, "thinks", "()V"⟩
abbrev cX7_putsBack : ByteArray := prog_9_method_46_code
def yX7_putsBack : MethodName := ⟨RX7, "putsBack", "()V"⟩
abbrev cX7_behind : ByteArray := prog_9_method_47_code
def yX7_behind : MethodName := ⟨RX7, "behind", "(II)I"⟩
abbrev cX7_debt : ByteArray := prog_9_method_48_code
def yX7_debt : MethodName := ⟨RX7, "debt", "(II)I"⟩
abbrev cX7_rises : ByteArray := prog_9_method_49_code
def yX7_rises : MethodName := ⟨RX7, "rises", "(II)I"⟩
abbrev cX7_mostBy : ByteArray := prog_9_method_50_code
def yX7_mostBy : MethodName := ⟨RX7, "mostBy", "(IIII)I"⟩
abbrev cX7_turned : ByteArray := prog_9_method_51_code
def yX7_turned : MethodName := ⟨RX7, "turned", "(III)I"⟩
abbrev cX7_becomes : ByteArray := prog_9_method_52_code
def yX7_becomes : MethodName := ⟨RX7, "becomes", "(III)I"⟩
abbrev cX7_stands : ByteArray := prog_9_method_53_code
def yX7_stands : MethodName := ⟨RX7, "stands", "(II)I"⟩
abbrev cX7_like : ByteArray := prog_9_method_54_code
def yX7_like : MethodName := ⟨RX7, "like", "(II)I"⟩
abbrev cX7_fee : ByteArray := prog_9_method_55_code
def yX7_fee : MethodName := ⟨RX7, "fee", "()I"⟩
abbrev cX7_fine : ByteArray := prog_9_method_56_code
def yX7_fine : MethodName := ⟨RX7, "fine", "(I)I"⟩
abbrev cX7_feed : ByteArray := prog_9_method_57_code
def yX7_feed : MethodName := ⟨RX7, "feed", "(III)I"⟩
abbrev cX7_trim : ByteArray := prog_9_method_58_code
def yX7_trim : MethodName := ⟨RX7, "trim", "(I)I"⟩
abbrev cX7_isLetter : ByteArray := prog_9_method_59_code
def yX7_isLetter : MethodName := ⟨RX7, "isLetter", "(I)Z"⟩
abbrev cX7_isFigure : ByteArray := prog_9_method_60_code
def yX7_isFigure : MethodName := ⟨RX7, "isFigure", "(I)Z"⟩
abbrev cX7_go : ByteArray := prog_9_method_61_code
def yX7_go : MethodName := ⟨RX7, "go", "()V"⟩
abbrev cX7_takesKey : ByteArray := prog_9_method_62_code
def yX7_takesKey : MethodName := ⟨RX7, "takesKey", "()Z"⟩
abbrev cX7_nameOf : ByteArray := prog_9_method_63_code
def yX7_nameOf : MethodName := ⟨RX7, "nameOf", "(I)I"⟩
abbrev cX7_rank : ByteArray := prog_9_method_64_code
def yX7_rank : MethodName := ⟨RX7, "rank", "(I)I"⟩
abbrev cX7_settle : ByteArray := prog_9_method_65_code
def yX7_settle : MethodName := ⟨RX7, "settle", "(I)V"⟩
abbrev cX7_signHere : ByteArray := prog_9_method_66_code
def yX7_signHere : MethodName := ⟨RX7, "signHere", "()I"⟩
abbrev cX7_takesPart : ByteArray := prog_9_method_67_code
def yX7_takesPart : MethodName := ⟨RX7, "takesPart", "()Z"⟩
abbrev cX7_takesE : ByteArray := prog_9_method_68_code
def yX7_takesE : MethodName := ⟨RX7, "takesE", "()Z"⟩
abbrev cX7_notsOpen : ByteArray := prog_9_method_69_code
def yX7_notsOpen : MethodName := ⟨RX7, "notsOpen", "()I"⟩
abbrev cX7_text : ByteArray := prog_9_method_70_code
def yX7_text : MethodName := ⟨RX7, "text", "()I"⟩
abbrev cX7_textTold : ByteArray := prog_9_method_71_code
def yX7_textTold : MethodName := ⟨RX7, "textTold", "(II)I"⟩
abbrev cX7_counts : ByteArray := prog_9_method_72_code
def yX7_counts : MethodName := ⟨RX7, "counts", "(I)I"⟩
abbrev cX7_why : ByteArray := prog_9_method_73_code
def yX7_why : MethodName := ⟨RX7, "why", "(I)I"⟩
abbrev cX7_two : ByteArray := prog_9_method_74_code
def yX7_two : MethodName := ⟨RX7, "two", "(III)I"⟩
abbrev cX7_worksOut : ByteArray := prog_9_method_75_code
def yX7_worksOut : MethodName := ⟨RX7, "worksOut", "(I)I"⟩
abbrev cX7_isSheet : ByteArray := prog_9_method_76_code
def yX7_isSheet : MethodName := ⟨RX7, "isSheet", "(I)Z"⟩
abbrev cX7_isSlot : ByteArray := prog_9_method_77_code
def yX7_isSlot : MethodName := ⟨RX7, "isSlot", "(I)Z"⟩
abbrev cX7_sheet : ByteArray := prog_9_method_78_code
def yX7_sheet : MethodName := ⟨RX7, "sheet", "(III)I"⟩
abbrev cX7_mark : ByteArray := prog_9_method_79_code
def yX7_mark : MethodName := ⟨RX7, "mark", "(III)I"⟩
abbrev cX7_pour : ByteArray := prog_9_method_80_code
def yX7_pour : MethodName := ⟨RX7, "pour", "(I)I"⟩
abbrev cX7_reads : ByteArray := prog_9_method_81_code
def yX7_reads : MethodName := ⟨RX7, "reads", "(I)I"⟩
abbrev cX7_copy : ByteArray := prog_9_method_82_code
def yX7_copy : MethodName := ⟨RX7, "copy", "(IIIII)I"⟩
abbrev cX7_lay : ByteArray := prog_9_method_83_code
def yX7_lay : MethodName := ⟨RX7, "lay", "(III)I"⟩
abbrev cX7_ask : ByteArray := prog_9_method_84_code
def yX7_ask : MethodName := ⟨RX7, "ask", "(II)I"⟩
abbrev cX7_item : ByteArray := prog_9_method_85_code
def yX7_item : MethodName := ⟨RX7, "item", "(II)I"⟩
abbrev cX7_rest : ByteArray := prog_9_method_86_code
def yX7_rest : MethodName := ⟨RX7, "rest", "(II)I"⟩
abbrev cX7_tell : ByteArray := prog_9_method_87_code
def yX7_tell : MethodName := ⟨RX7, "tell", "(I)I"⟩
abbrev cX7_check : ByteArray := prog_9_method_88_code
def yX7_check : MethodName := ⟨RX7, "check", "(I)I"⟩
abbrev cX7_keep : ByteArray := prog_9_method_89_code
def yX7_keep : MethodName := ⟨RX7, "keep", "()I"⟩
abbrev cX7_back : ByteArray := prog_9_method_90_code
def yX7_back : MethodName := ⟨RX7, "back", "()I"⟩
abbrev cX7_count : ByteArray := prog_9_method_91_code
def yX7_count : MethodName := ⟨RX7, "count", "(I)I"⟩
def RJ11 : String := "java/lang/Character"
abbrev cJ11_isValidCodePoint_9a6ad : ByteArray := prog_10_method_11_code
def yJ11_isValidCodePoint_9a6ad : MethodName := ⟨RJ11, "isValidCodePoint", "(I)Z"⟩
abbrev cJ11_highSurrogate_5068e : ByteArray := prog_10_method_28_code
def yJ11_highSurrogate_5068e : MethodName := ⟨RJ11, "highSurrogate", "(I)C"⟩
abbrev cJ11_lowSurrogate_5068e : ByteArray := prog_10_method_29_code
def yJ11_lowSurrogate_5068e : MethodName := ⟨RJ11, "lowSurrogate", "(I)C"⟩
def RJ6 : String := "java/lang/Integer"
abbrev cJ6_bitCount_0f7a4 : ByteArray := prog_11_method_49_code
def yJ6_bitCount_0f7a4 : MethodName := ⟨RJ6, "bitCount", "(I)I"⟩
def RJ9 : String := "java/lang/Math"
abbrev cJ9_abs_0f7a4 : ByteArray := prog_12_method_59_code
def yJ9_abs_0f7a4 : MethodName := ⟨RJ9, "abs", "(I)I"⟩
abbrev cJ9_max_7cf53 : ByteArray := prog_12_method_65_code
def yJ9_max_7cf53 : MethodName := ⟨RJ9, "max", "(II)I"⟩
abbrev cJ9_min_7cf53 : ByteArray := prog_12_method_69_code
def yJ9_min_7cf53 : MethodName := ⟨RJ9, "min", "(II)I"⟩
def RJ0 : String := "java/lang/String"
abbrev cJ0_length_8abf5 : ByteArray := prog_13_method_54_code
def yJ0_length_8abf5 : MethodName := ⟨RJ0, "length", "()I"⟩
abbrev cJ0_charAt_5068e : ByteArray := prog_13_method_56_code
def yJ0_charAt_5068e : MethodName := ⟨RJ0, "charAt", "(I)C"⟩
abbrev cJ0_indexOf_0f7a4 : ByteArray := prog_13_method_79_code
def yJ0_indexOf_0f7a4 : MethodName := ⟨RJ0, "indexOf", "(I)I"⟩
abbrev cJ0_indexOf_7cf53 : ByteArray := prog_13_method_80_code
def yJ0_indexOf_7cf53 : MethodName := ⟨RJ0, "indexOf", "(II)I"⟩
abbrev cJ0_coder_7d493 : ByteArray := prog_13_method_152_code
def yJ0_coder_7d493 : MethodName := ⟨RJ0, "coder", "()B"⟩
abbrev cJ0_isLatin1_aae02 : ByteArray := prog_13_method_154_code
def yJ0_isLatin1_aae02 : MethodName := ⟨RJ0, "isLatin1", "()Z"⟩
abbrev cJ0_checkIndex_df160 : ByteArray := prog_13_method_155_code
def yJ0_checkIndex_df160 : MethodName := ⟨RJ0, "checkIndex", "(II)V"⟩
abbrev cJ0_checkBoundsBeginEnd_23922 : ByteArray := prog_13_method_158_code
def yJ0_checkBoundsBeginEnd_23922 : MethodName := ⟨RJ0, "checkBoundsBeginEnd", "(III)V"⟩
def RJ1 : String := "java/lang/StringLatin1"
abbrev cJ1_charAt_3b067 : ByteArray := prog_14_method_2_code
def yJ1_charAt_3b067 : MethodName := ⟨RJ1, "charAt", "([BI)C"⟩
abbrev cJ1_canEncode_9a6ad : ByteArray := prog_14_method_4_code
def yJ1_canEncode_9a6ad : MethodName := ⟨RJ1, "canEncode", "(I)Z"⟩
abbrev cJ1_indexOf_4cfef : ByteArray := prog_14_method_22_code
def yJ1_indexOf_4cfef : MethodName := ⟨RJ1, "indexOf", "([BIII)I"⟩
abbrev cJ1_indexOfChar_4cfef : ByteArray := prog_14_method_23_code
def yJ1_indexOfChar_4cfef : MethodName := ⟨RJ1, "indexOfChar", "([BIII)I"⟩
def RJ2 : String := "java/lang/StringUTF16"
abbrev cJ2_getChar_3b067 : ByteArray := prog_15_method_5_code
def yJ2_getChar_3b067 : MethodName := ⟨RJ2, "getChar", "([BI)C"⟩
abbrev cJ2_length_9d52b : ByteArray := prog_15_method_6_code
def yJ2_length_9d52b : MethodName := ⟨RJ2, "length", "([B)I"⟩
abbrev cJ2_indexOf_4cfef : ByteArray := prog_15_method_40_code
def yJ2_indexOf_4cfef : MethodName := ⟨RJ2, "indexOf", "([BIII)I"⟩
abbrev cJ2_indexOfChar_4cfef : ByteArray := prog_15_method_47_code
def yJ2_indexOfChar_4cfef : MethodName := ⟨RJ2, "indexOfChar", "([BIII)I"⟩
abbrev cJ2_indexOfCharUnsafe_4cfef : ByteArray := prog_15_method_48_code
def yJ2_indexOfCharUnsafe_4cfef : MethodName := ⟨RJ2, "indexOfCharUnsafe", "([BIII)I"⟩
abbrev cJ2_indexOfSupplementary_4cfef : ByteArray := prog_15_method_49_code
def yJ2_indexOfSupplementary_4cfef : MethodName := ⟨RJ2, "indexOfSupplementary", "([BIII)I"⟩
abbrev cJ2_charAt_3b067 : ByteArray := prog_15_method_83_code
def yJ2_charAt_3b067 : MethodName := ⟨RJ2, "charAt", "([BI)C"⟩
abbrev cJ2_checkIndex_2214a : ByteArray := prog_15_method_91_code
def yJ2_checkIndex_2214a : MethodName := ⟨RJ2, "checkIndex", "(I[B)V"⟩
abbrev cJ2_checkBoundsBeginEnd_d044e : ByteArray := prog_15_method_93_code
def yJ2_checkBoundsBeginEnd_d044e : MethodName := ⟨RJ2, "checkBoundsBeginEnd", "(II[B)V"⟩
def RJ10 : String := "java/lang/System"
def RJ3 : String := "jdk/internal/util/Preconditions"
abbrev cJ3_checkIndex_8e157 : ByteArray := prog_17_method_11_code
def yJ3_checkIndex_8e157 : MethodName := ⟨RJ3, "checkIndex", "(IILjava/util/function/BiFunction;)I"⟩
abbrev cJ3_checkFromToIndex_8c36e : ByteArray := prog_17_method_12_code
def yJ3_checkFromToIndex_8c36e : MethodName := ⟨RJ3, "checkFromToIndex", "(IIILjava/util/function/BiFunction;)I"⟩
def RL : String := "AtticStarsLaw"
abbrev cL_law : ByteArray := code
def yL_law : MethodName := ⟨RL, "law", "([I)Z"⟩
abbrev vwCl : List vw_C := [(RX0, TX0, 5), (RX1, TX1, 3), (RX2, TX2, 4), (RX3, TX3, 11), (RX4, TX4, 3), (RX5, TX5, 18), (RX6, TX6, 10), (RX7, TX7, 34)]
abbrev Fr : Type := MethodName × ByteArray × Nat × Option FieldType
def fX0_init : Fr := (yX0_init, cX0_init, 1, none)
def fX0_renew : Fr := (yX0_renew, cX0_renew, 4, none)
def fX0_takeAfter : Fr := (yX0_takeAfter, cX0_takeAfter, 2, none)
def fX0_isOf : Fr := (yX0_isOf, cX0_isOf, 4, (some .boolean))
def fX0_pay : Fr := (yX0_pay, cX0_pay, 3, (some .int))
def fX0_earn : Fr := (yX0_earn, cX0_earn, 2, none)
def fX1_init : Fr := (yX1_init, cX1_init, 1, none)
def fX1_renew : Fr := (yX1_renew, cX1_renew, 4, none)
def fX1_takeAfter : Fr := (yX1_takeAfter, cX1_takeAfter, 2, none)
def fX1_hasPlace : Fr := (yX1_hasPlace, cX1_hasPlace, 2, (some .boolean))
def fX1_hasNumber : Fr := (yX1_hasNumber, cX1_hasNumber, 2, (some .boolean))
def fX1_hasPlaces : Fr := (yX1_hasPlaces, cX1_hasPlaces, 3, (some .boolean))
def fX2_init : Fr := (yX2_init, cX2_init, 1, none)
def fX3_init : Fr := (yX3_init, cX3_init, 1, none)
def fX3_append : Fr := (yX3_append, cX3_append, 3, none)
def fX3_readText : Fr := (yX3_readText, cX3_readText, 1, (some (.object "AtticStars$Text")))
def fX3_advance : Fr := (yX3_advance, cX3_advance, 3, none)
def fX3_sortAt : Fr := (yX3_sortAt, cX3_sortAt, 3, (some .int))
def fX3_signHere : Fr := (yX3_signHere, cX3_signHere, 1, (some .int))
def fX3_keyHere : Fr := (yX3_keyHere, cX3_keyHere, 1, (some .int))
def fX3_isHere : Fr := (yX3_isHere, cX3_isHere, 3, (some .boolean))
def fX3_readJoined : Fr := (yX3_readJoined, cX3_readJoined, 5, (some .boolean))
def fX3_rankOf : Fr := (yX3_rankOf, cX3_rankOf, 1, (some .int))
def fX3_readPiece : Fr := (yX3_readPiece, cX3_readPiece, 2, (some .boolean))
def fX3_readLeaf : Fr := (yX3_readLeaf, cX3_readLeaf, 2, (some .boolean))
def fX3_readNot : Fr := (yX3_readNot, cX3_readNot, 1, (some .boolean))
def fX3_readOpen : Fr := (yX3_readOpen, cX3_readOpen, 1, (some .boolean))
def fX3_numberHere : Fr := (yX3_numberHere, cX3_numberHere, 3, (some .int))
def fX3_nameHere : Fr := (yX3_nameHere, cX3_nameHere, 2, (some .int))
def fX3_addStep : Fr := (yX3_addStep, cX3_addStep, 2, none)
def fX4_init : Fr := (yX4_init, cX4_init, 5, none)
def fX4_gives : Fr := (yX4_gives, cX4_gives, 6, (some .int))
def fX4_joined : Fr := (yX4_joined, cX4_joined, 3, (some .int))
def fX5_init : Fr := (yX5_init, cX5_init, 2, none)
def fX5_takeAfter : Fr := (yX5_takeAfter, cX5_takeAfter, 3, none)
def fX5_addAttic : Fr := (yX5_addAttic, cX5_addAttic, 4, (some .int))
def fX5_drawAttic : Fr := (yX5_drawAttic, cX5_drawAttic, 4, none)
def fX5_addText : Fr := (yX5_addText, cX5_addText, 2, (some .int))
def fX5_draw : Fr := (yX5_draw, cX5_draw, 1, (some .int))
def fX5_passHour : Fr := (yX5_passHour, cX5_passHour, 4, none)
def fX5_choose : Fr := (yX5_choose, cX5_choose, 5, (some .boolean))
def fX5_bearingOf : Fr := (yX5_bearingOf, cX5_bearingOf, 2, (some .int))
def fX5_wideOf : Fr := (yX5_wideOf, cX5_wideOf, 2, (some .int))
def fX5_hidingFrom : Fr := (yX5_hidingFrom, cX5_hidingFrom, 2, (some .int))
def fX5_seenBy : Fr := (yX5_seenBy, cX5_seenBy, 8, (some .int))
def fX5_watchersOf : Fr := (yX5_watchersOf, cX5_watchersOf, 4, (some .int))
def fX5_dark : Fr := (yX5_dark, cX5_dark, 3, (some .int))
def fX5_fewestFor : Fr := (yX5_fewestFor, cX5_fewestFor, 6, (some .int))
def fX5_viewOf : Fr := (yX5_viewOf, cX5_viewOf, 4, (some .int))
def fX5_rentOf : Fr := (yX5_rentOf, cX5_rentOf, 4, (some .int))
def fX5_plainRentOf : Fr := (yX5_plainRentOf, cX5_plainRentOf, 5, (some .int))
def fX5_feeGives : Fr := (yX5_feeGives, cX5_feeGives, 2, (some .int))
def fX5_fineGives : Fr := (yX5_fineGives, cX5_fineGives, 3, (some .int))
def fX5_textFor : Fr := (yX5_textFor, cX5_textFor, 3, (some (.object "AtticStars$Text")))
def fX5_owedByAll : Fr := (yX5_owedByAll, cX5_owedByAll, 3, (some .int))
def fX5_coinOfAll : Fr := (yX5_coinOfAll, cX5_coinOfAll, 3, (some .int))
def fX5_rentOfAll : Fr := (yX5_rentOfAll, cX5_rentOfAll, 3, (some .int))
def fX6_init : Fr := (yX6_init, cX6_init, 2, none)
def fX6_attic : Fr := (yX6_attic, cX6_attic, 4, (some .int))
def fX6_told : Fr := (yX6_told, cX6_told, 4, (some .int))
def fX6_as : Fr := (yX6_as, cX6_as, 4, (some .int))
def fX6_turns : Fr := (yX6_turns, cX6_turns, 5, (some .int))
def fX6_set : Fr := (yX6_set, cX6_set, 6, (some .int))
def fX6_star : Fr := (yX6_star, cX6_star, 5, (some .int))
def fX6_starOf : Fr := (yX6_starOf, cX6_starOf, 3, (some .int))
def fX6_chimney : Fr := (yX6_chimney, cX6_chimney, 4, (some .int))
def fX6_smokes : Fr := (yX6_smokes, cX6_smokes, 2, (some .int))
def fX6_rule : Fr := (yX6_rule, cX6_rule, 4, (some .int))
def fX6_deal : Fr := (yX6_deal, cX6_deal, 4, (some .int))
def fX6_seed : Fr := (yX6_seed, cX6_seed, 3, (some .int))
def fX6_hours : Fr := (yX6_hours, cX6_hours, 4, (some .int))
def fX6_town : Fr := (yX6_town, cX6_town, 2, (some .int))
def fX6_cover : Fr := (yX6_cover, cX6_cover, 2, (some .int))
def fX6_behind : Fr := (yX6_behind, cX6_behind, 4, (some .int))
def fX6_debt : Fr := (yX6_debt, cX6_debt, 4, (some .int))
def fX6_rises : Fr := (yX6_rises, cX6_rises, 4, (some .int))
def fX6_turned : Fr := (yX6_turned, cX6_turned, 4, (some .int))
def fX6_stands : Fr := (yX6_stands, cX6_stands, 3, (some .int))
def fX6_becomes : Fr := (yX6_becomes, cX6_becomes, 4, (some .int))
def fX6_like : Fr := (yX6_like, cX6_like, 6, (some .int))
def fX6_fee : Fr := (yX6_fee, cX6_fee, 1, (some .int))
def fX6_fine : Fr := (yX6_fine, cX6_fine, 2, (some .int))
def fX6_feed : Fr := (yX6_feed, cX6_feed, 4, (some .int))
def fX6_trim : Fr := (yX6_trim, cX6_trim, 2, (some .int))
def fX6_text : Fr := (yX6_text, cX6_text, 2, (some .int))
def fX6_textTold : Fr := (yX6_textTold, cX6_textTold, 4, (some .int))
def fX6_why : Fr := (yX6_why, cX6_why, 2, (some .int))
def fX6_sheet : Fr := (yX6_sheet, cX6_sheet, 4, (some .int))
def fX6_mark : Fr := (yX6_mark, cX6_mark, 5, (some .int))
def fX6_pour : Fr := (yX6_pour, cX6_pour, 6, (some .int))
def fX6_reads : Fr := (yX6_reads, cX6_reads, 4, (some .int))
def fX6_copy : Fr := (yX6_copy, cX6_copy, 8, (some .int))
def fX6_lay : Fr := (yX6_lay, cX6_lay, 6, (some .int))
def fX6_ask : Fr := (yX6_ask, cX6_ask, 4, (some .int))
def fX6_item : Fr := (yX6_item, cX6_item, 4, (some .int))
def fX6_rest : Fr := (yX6_rest, cX6_rest, 4, (some .int))
def fX6_tell : Fr := (yX6_tell, cX6_tell, 2, (some .int))
def fX6_check : Fr := (yX6_check, cX6_check, 6, (some .int))
def fX6_keep : Fr := (yX6_keep, cX6_keep, 1, (some .int))
def fX6_back : Fr := (yX6_back, cX6_back, 1, (some .int))
def fX6_count : Fr := (yX6_count, cX6_count, 2, (some .int))
def fX6_within : Fr := (yX6_within, cX6_within, 3, (some .boolean))
def fX6_held : Fr := (yX6_held, cX6_held, 2, (some .int))
def fX6_isBearing : Fr := (yX6_isBearing, cX6_isBearing, 1, (some .boolean))
def fX6_isStar : Fr := (yX6_isStar, cX6_isStar, 1, (some .boolean))
def fX6_isSheet : Fr := (yX6_isSheet, cX6_isSheet, 1, (some .boolean))
def fX6_isSlot : Fr := (yX6_isSlot, cX6_isSlot, 1, (some .boolean))
def fX6_isAttic : Fr := (yX6_isAttic, cX6_isAttic, 2, (some .boolean))
def fX6_bestOf : Fr := (yX6_bestOf, cX6_bestOf, 10, (some .int))
def fX6_measureDifferences : Fr := (yX6_measureDifferences, cX6_measureDifferences, 4, none)
def fX7_init : Fr := (yX7_init, cX7_init, 2, none)
def fX7_in : Fr := (yX7_in, cX7_in, 3, (some .boolean))
def fX7_within : Fr := (yX7_within, cX7_within, 3, (some .int))
def fX7_copyAll : Fr := (yX7_copyAll, cX7_copyAll, 3, none)
def fX7_bits : Fr := (yX7_bits, cX7_bits, 3, (some .int))
def fX7_isAttic : Fr := (yX7_isAttic, cX7_isAttic, 2, (some .boolean))
def fX7_isStar : Fr := (yX7_isStar, cX7_isStar, 1, (some .boolean))
def fX7_isBearing : Fr := (yX7_isBearing, cX7_isBearing, 1, (some .boolean))
def fX7_of : Fr := (yX7_of, cX7_of, 3, (some .int))
def fX7_put : Fr := (yX7_put, cX7_put, 4, none)
def fX7_swaps : Fr := (yX7_swaps, cX7_swaps, 4, (some .int))
def fX7_off : Fr := (yX7_off, cX7_off, 1, (some .int))
def fX7_wideBy : Fr := (yX7_wideBy, cX7_wideBy, 3, (some .int))
def fX7_wideOf : Fr := (yX7_wideOf, cX7_wideOf, 2, (some .int))
def fX7_worthOf : Fr := (yX7_worthOf, cX7_worthOf, 2, (some .int))
def fX7_standsAt : Fr := (yX7_standsAt, cX7_standsAt, 2, (some .int))
def fX7_isHidden : Fr := (yX7_isHidden, cX7_isHidden, 4, (some .boolean))
def fX7_sees : Fr := (yX7_sees, cX7_sees, 7, (some .int))
def fX7_pricesOf : Fr := (yX7_pricesOf, cX7_pricesOf, 4, (some .int))
def fX7_rentOf : Fr := (yX7_rentOf, cX7_rentOf, 6, (some .int))
def fX7_comes : Fr := (yX7_comes, cX7_comes, 5, (some .int))
def fX7_attic : Fr := (yX7_attic, cX7_attic, 4, (some .int))
def fX7_told : Fr := (yX7_told, cX7_told, 3, (some .int))
def fX7_isUnder : Fr := (yX7_isUnder, cX7_isUnder, 2, (some .boolean))
def fX7_as : Fr := (yX7_as, cX7_as, 3, (some .int))
def fX7_turns : Fr := (yX7_turns, cX7_turns, 3, (some .int))
def fX7_set : Fr := (yX7_set, cX7_set, 5, (some .int))
def fX7_star : Fr := (yX7_star, cX7_star, 5, (some .int))
def fX7_seers : Fr := (yX7_seers, cX7_seers, 4, (some .int))
def fX7_starOf : Fr := (yX7_starOf, cX7_starOf, 3, (some .int))
def fX7_chimney : Fr := (yX7_chimney, cX7_chimney, 4, (some .int))
def fX7_smokes : Fr := (yX7_smokes, cX7_smokes, 2, (some .int))
def fX7_rule : Fr := (yX7_rule, cX7_rule, 3, (some .int))
def fX7_draw : Fr := (yX7_draw, cX7_draw, 1, (some .int))
def fX7_deal : Fr := (yX7_deal, cX7_deal, 6, (some .int))
def fX7_seed : Fr := (yX7_seed, cX7_seed, 2, (some .int))
def fX7_pays : Fr := (yX7_pays, cX7_pays, 4, none)
def fX7_hour : Fr := (yX7_hour, cX7_hour, 4, none)
def fX7_goesOn : Fr := (yX7_goesOn, cX7_goesOn, 3, none)
def fX7_hours : Fr := (yX7_hours, cX7_hours, 3, (some .int))
def fX7_sumOf : Fr := (yX7_sumOf, cX7_sumOf, 4, (some .int))
def fX7_dark : Fr := (yX7_dark, cX7_dark, 3, (some .int))
def fX7_town : Fr := (yX7_town, cX7_town, 2, (some .int))
def fX7_cover : Fr := (yX7_cover, cX7_cover, 6, (some .int))
def fX7_thinks : Fr := (yX7_thinks, cX7_thinks, 1, none)
def fX7_putsBack : Fr := (yX7_putsBack, cX7_putsBack, 1, none)
def fX7_behind : Fr := (yX7_behind, cX7_behind, 4, (some .int))
def fX7_debt : Fr := (yX7_debt, cX7_debt, 4, (some .int))
def fX7_rises : Fr := (yX7_rises, cX7_rises, 4, (some .int))
def fX7_mostBy : Fr := (yX7_mostBy, cX7_mostBy, 9, (some .int))
def fX7_turned : Fr := (yX7_turned, cX7_turned, 4, (some .int))
def fX7_becomes : Fr := (yX7_becomes, cX7_becomes, 4, (some .int))
def fX7_stands : Fr := (yX7_stands, cX7_stands, 7, (some .int))
def fX7_like : Fr := (yX7_like, cX7_like, 7, (some .int))
def fX7_fee : Fr := (yX7_fee, cX7_fee, 2, (some .int))
def fX7_fine : Fr := (yX7_fine, cX7_fine, 3, (some .int))
def fX7_feed : Fr := (yX7_feed, cX7_feed, 6, (some .int))
def fX7_trim : Fr := (yX7_trim, cX7_trim, 2, (some .int))
def fX7_isLetter : Fr := (yX7_isLetter, cX7_isLetter, 2, (some .boolean))
def fX7_isFigure : Fr := (yX7_isFigure, cX7_isFigure, 2, (some .boolean))
def fX7_go : Fr := (yX7_go, cX7_go, 2, none)
def fX7_takesKey : Fr := (yX7_takesKey, cX7_takesKey, 5, (some .boolean))
def fX7_nameOf : Fr := (yX7_nameOf, cX7_nameOf, 2, (some .int))
def fX7_rank : Fr := (yX7_rank, cX7_rank, 1, (some .int))
def fX7_settle : Fr := (yX7_settle, cX7_settle, 2, none)
def fX7_signHere : Fr := (yX7_signHere, cX7_signHere, 1, (some .int))
def fX7_takesPart : Fr := (yX7_takesPart, cX7_takesPart, 2, (some .boolean))
def fX7_takesE : Fr := (yX7_takesE, cX7_takesE, 5, (some .boolean))
def fX7_notsOpen : Fr := (yX7_notsOpen, cX7_notsOpen, 3, (some .int))
def fX7_text : Fr := (yX7_text, cX7_text, 4, (some .int))
def fX7_textTold : Fr := (yX7_textTold, cX7_textTold, 3, (some .int))
def fX7_counts : Fr := (yX7_counts, cX7_counts, 3, (some .int))
def fX7_why : Fr := (yX7_why, cX7_why, 3, (some .int))
def fX7_two : Fr := (yX7_two, cX7_two, 3, (some .int))
def fX7_worksOut : Fr := (yX7_worksOut, cX7_worksOut, 6, (some .int))
def fX7_isSheet : Fr := (yX7_isSheet, cX7_isSheet, 1, (some .boolean))
def fX7_isSlot : Fr := (yX7_isSlot, cX7_isSlot, 1, (some .boolean))
def fX7_sheet : Fr := (yX7_sheet, cX7_sheet, 5, (some .int))
def fX7_mark : Fr := (yX7_mark, cX7_mark, 4, (some .int))
def fX7_pour : Fr := (yX7_pour, cX7_pour, 6, (some .int))
def fX7_reads : Fr := (yX7_reads, cX7_reads, 4, (some .int))
def fX7_copy : Fr := (yX7_copy, cX7_copy, 7, (some .int))
def fX7_lay : Fr := (yX7_lay, cX7_lay, 6, (some .int))
def fX7_ask : Fr := (yX7_ask, cX7_ask, 3, (some .int))
def fX7_item : Fr := (yX7_item, cX7_item, 4, (some .int))
def fX7_rest : Fr := (yX7_rest, cX7_rest, 3, (some .int))
def fX7_tell : Fr := (yX7_tell, cX7_tell, 2, (some .int))
def fX7_check : Fr := (yX7_check, cX7_check, 6, (some .int))
def fX7_keep : Fr := (yX7_keep, cX7_keep, 1, (some .int))
def fX7_back : Fr := (yX7_back, cX7_back, 1, (some .int))
def fX7_count : Fr := (yX7_count, cX7_count, 2, (some .int))
def fJ11_isValidCodePoint_9a6ad : Fr := (yJ11_isValidCodePoint_9a6ad, cJ11_isValidCodePoint_9a6ad, 2, (some .boolean))
def fJ11_highSurrogate_5068e : Fr := (yJ11_highSurrogate_5068e, cJ11_highSurrogate_5068e, 1, (some .char))
def fJ11_lowSurrogate_5068e : Fr := (yJ11_lowSurrogate_5068e, cJ11_lowSurrogate_5068e, 1, (some .char))
def fJ6_bitCount_0f7a4 : Fr := (yJ6_bitCount_0f7a4, cJ6_bitCount_0f7a4, 1, (some .int))
def fJ9_abs_0f7a4 : Fr := (yJ9_abs_0f7a4, cJ9_abs_0f7a4, 1, (some .int))
def fJ9_max_7cf53 : Fr := (yJ9_max_7cf53, cJ9_max_7cf53, 2, (some .int))
def fJ9_min_7cf53 : Fr := (yJ9_min_7cf53, cJ9_min_7cf53, 2, (some .int))
def fJ0_length_8abf5 : Fr := (yJ0_length_8abf5, cJ0_length_8abf5, 1, (some .int))
def fJ0_charAt_5068e : Fr := (yJ0_charAt_5068e, cJ0_charAt_5068e, 2, (some .char))
def fJ0_indexOf_0f7a4 : Fr := (yJ0_indexOf_0f7a4, cJ0_indexOf_0f7a4, 2, (some .int))
def fJ0_indexOf_7cf53 : Fr := (yJ0_indexOf_7cf53, cJ0_indexOf_7cf53, 3, (some .int))
def fJ0_coder_7d493 : Fr := (yJ0_coder_7d493, cJ0_coder_7d493, 1, (some .byte))
def fJ0_isLatin1_aae02 : Fr := (yJ0_isLatin1_aae02, cJ0_isLatin1_aae02, 1, (some .boolean))
def fJ0_checkIndex_df160 : Fr := (yJ0_checkIndex_df160, cJ0_checkIndex_df160, 2, none)
def fJ0_checkBoundsBeginEnd_23922 : Fr := (yJ0_checkBoundsBeginEnd_23922, cJ0_checkBoundsBeginEnd_23922, 3, none)
def fJ1_charAt_3b067 : Fr := (yJ1_charAt_3b067, cJ1_charAt_3b067, 2, (some .char))
def fJ1_canEncode_9a6ad : Fr := (yJ1_canEncode_9a6ad, cJ1_canEncode_9a6ad, 1, (some .boolean))
def fJ1_indexOf_4cfef : Fr := (yJ1_indexOf_4cfef, cJ1_indexOf_4cfef, 4, (some .int))
def fJ1_indexOfChar_4cfef : Fr := (yJ1_indexOfChar_4cfef, cJ1_indexOfChar_4cfef, 6, (some .int))
def fJ2_getChar_3b067 : Fr := (yJ2_getChar_3b067, cJ2_getChar_3b067, 2, (some .char))
def fJ2_length_9d52b : Fr := (yJ2_length_9d52b, cJ2_length_9d52b, 1, (some .int))
def fJ2_indexOf_4cfef : Fr := (yJ2_indexOf_4cfef, cJ2_indexOf_4cfef, 4, (some .int))
def fJ2_indexOfChar_4cfef : Fr := (yJ2_indexOfChar_4cfef, cJ2_indexOfChar_4cfef, 4, (some .int))
def fJ2_indexOfCharUnsafe_4cfef : Fr := (yJ2_indexOfCharUnsafe_4cfef, cJ2_indexOfCharUnsafe_4cfef, 5, (some .int))
def fJ2_indexOfSupplementary_4cfef : Fr := (yJ2_indexOfSupplementary_4cfef, cJ2_indexOfSupplementary_4cfef, 7, (some .int))
def fJ2_charAt_3b067 : Fr := (yJ2_charAt_3b067, cJ2_charAt_3b067, 2, (some .char))
def fJ2_checkIndex_2214a : Fr := (yJ2_checkIndex_2214a, cJ2_checkIndex_2214a, 2, none)
def fJ2_checkBoundsBeginEnd_d044e : Fr := (yJ2_checkBoundsBeginEnd_d044e, cJ2_checkBoundsBeginEnd_d044e, 3, none)
def fJ3_checkIndex_8e157 : Fr := (yJ3_checkIndex_8e157, cJ3_checkIndex_8e157, 3, (some .int))
def fJ3_checkFromToIndex_8c36e : Fr := (yJ3_checkFromToIndex_8c36e, cJ3_checkFromToIndex_8c36e, 4, (some .int))
def nF (c : Nat) : Nat := ([5, 3, 4, 11, 3, 18, 10, 34] : List Nat).getD c 0
def rTab : List (List Bool) := [[false, false, false, false, false], [true, false, false], [false, true, true, false], [true, false, false, false, false, false, false, false, false, true, false], [false, false, true], [true, true, true, false, false, false, false, false, false, false, false, false, true, false, true, true, true, true], [true, true, true, false, true, true, true, true, false, true], [true, true, true, false, true, true, true, false, false, false, false, false, false, false, true, true, true, false, false, true, false, true, true, true, true, true, true, true, true, true, true, true, true, false]]
def isR (c j : Nat) : Bool := (rTab.getD c []).getD j false
def nestW : List Cond := [.methodLinkNest RX5 52 yX0_init RX6, .methodLinkNest RX6 24 yX3_init RX6, .methodLinkNest RX6 48 yX1_init RX6, .methodLinkNest RX6 49 yX2_init RX6, .methodLinkNest RX2 9 yX0_init RX6, .methodLinkNest RX2 18 yX1_init RX6, .methodLinkNest RX5 113 yX6_within RX6, .methodLinkNest RX5 169 yX6_held RX6, .methodLinkNest RX0 27 yX6_within RX6, .fieldLinkNest RX0 31 RX6 "KIND_ABOVE" "[I" RX6, .methodLinkNest RX1 28 yX6_within RX6]
def sLen : List Nat := [4, 3, 4, 4, 2, 2]
def sByt : List (List Int32) := [[119, 97, 110, 116], [102, 101, 101], [102, 105, 110, 101], [112, 110, 104, 119], [116, 111], [99, 111]]
def sIdx (i : Nat) : Nat := ([66, 72, 74, 113, 115, 117] : List Nat).getD i 0
def sTx (i : Nat) : String := (["want", "fee", "fine", "pnhw", "to", "co"] : List String).getD i ""
end
section
/-! The world as numbers: a cell of place i (address base + i) holds ints 'mi i j' and references 'S.2.2 i j' (places); its kind is 'S.2.1 i'.
kinds 0 .. 7: an object of vwCl; 8 int[], 9 boolean[], 10 char[], 11 Attic[], 12 Sheet[], 13 Slot[], 14 Text[] (with its length). -/
abbrev Mem : Type := Nat → Nat → Int32
abbrev Rfm : Type := Nat → Nat → Option Nat
abbrev Sg : Type := Nat × (Nat → Nat × Nat) × Rfm
/-- base; classes; array classes; KIND_ABOVE's address; the texts' addresses and their rows' ; the script's address, length, ints -/
abbrev Xb : Type := Nat × va_G × (Nat → ClassId) × Nat × (Nat → Nat) × (Nat → Nat) × Nat × Nat × (Nat → Int32)
abbrev rf (X : Xb) (i : Nat) : Value := .ref (X.1 + i)
abbrev bA (X : Xb) : Nat → Prop := fun q => X.1 ≤ q
def TW : List Cond := lw_tbl.filter goodWord
theorem TW_of {w : Cond} (i : Nat) (h : lw_tbl[i]? = some w) (g : goodWord w = true) : w ∈ TW := List.mem_filter.mpr ⟨List.mem_of_getElem? h, g⟩
def m_up (mi : Mem) (i j : Nat) (v : Int32) : Mem := fun a k => if a = i ∧ k = j then v else mi a k
def r_up (mr : Rfm) (i j : Nat) (v : Option Nat) : Rfm := fun a k => if a = i ∧ k = j then v else mr a k
def flds (b c : Nat) (f : Nat → Int32) (g : Nat → Option Nat) : List Value := (List.range (nF c)).map (fun j => if isR c j then va_rf ((g j).map (b + ·)) else .int (f j))
def cellE (X : Xb) (S : Sg) (mi : Mem) (i : Nat) : va_E :=
  if (S.2.1 i).1 < 8 then .inr ((S.2.1 i).1, flds X.1 (S.2.1 i).1 (mi i) (S.2.2 i))
  else if (S.2.1 i).1 < 11 then .inl (X.2.2.1 ((S.2.1 i).1 - 8), (S.2.1 i).2, .inl (mi i))
  else .inl (X.2.2.1 ((S.2.1 i).1 - 8), (S.2.1 i).2, .inr (.inr (.inr (.inr (fun j => (S.2.2 i j).map (X.1 + ·))))))
def wsOf (X : Xb) (S : Sg) (mi : Mem) : va_W := (List.range S.1).map (fun i => (X.1 + i, cellE X S mi i))
def tysOf (dA : Nat → ClassId) : List (ClassId × FieldType) := [(dA 0, .int), (dA 1, .boolean), (dA 2, .char), (dA 3, .object RX0), (dA 4, .object RX1), (dA 5, .object RX2), (dA 6, .object RX4)]
def Kd (S : Sg) (i c z : Nat) : Prop := i < S.1 ∧ S.2.1 i = (c, z)
def Wp (X : Xb) (S : Sg) (mi : Mem) (H : Heap) : Prop := H.size = X.1 + S.1 ∧ va_P X.2.1 vwCl (wsOf X S mi) H
theorem ws_at {X : Xb} {S : Sg} {mi : Mem} {i : Nat} (h : i < S.1) : (wsOf X S mi)[i]? = some (X.1 + i, cellE X S mi i) := by
  unfold wsOf
  rw [List.getElem?_map, List.getElem?_range h]; rfl
theorem ws_D (X : Xb) (S : Sg) (mi : Mem) : va_D (bA X) (wsOf X S mi) := by
  have h0 : ∀ (k : Nat) (q : Nat × va_E), (wsOf X S mi)[k]? = some q → q.1 = X.1 + k := by
    intro k q h
    by_cases hk : k < S.1
    · rw [ws_at hk] at h; cases h; rfl
    · exfalso
      have : (wsOf X S mi).length = S.1 := by simp [wsOf]
      rw [List.getElem?_eq_none (by omega)] at h; cases h
  refine ⟨fun i j p q hp hq e => ?_, fun k q h => ?_⟩
  · have h1 := h0 i p hp
    have h2 := h0 j q hq
    omega
  · show X.1 ≤ q.1
    have := h0 k q h
    omega
/-- a cell is written: the others are as they were -/
theorem ws_set {X : Xb} {S S' : Sg} {mi mi' : Mem} {i : Nat} {E : va_E} (hn : S'.1 = S.1) (hE : cellE X S' mi' i = E) (ho : ∀ j, j ≠ i → cellE X S' mi' j = cellE X S mi j) : (wsOf X S mi).set i (X.1 + i, E) = wsOf X S' mi' := by
  apply List.ext_getElem?
  intro j
  rw [List.getElem?_set]
  have hl : (wsOf X S mi).length = S.1 := by simp [wsOf]
  have hl' : (wsOf X S' mi').length = S.1 := by simp [wsOf, hn]
  by_cases hj : j < S.1
  · rw [ws_at (S := S') (by omega), ws_at hj]
    by_cases hij : i = j
    · subst hij
      simp [hl, hj, hE]
    · rw [if_neg hij, ho j (fun e => hij e.symm)]
  · rw [List.getElem?_eq_none (l := wsOf X S' mi') (by omega), List.getElem?_eq_none (l := wsOf X S mi) (by omega)]
    by_cases hij : i = j
    · subst hij
      simp [hl, hj]
    · rw [if_neg hij]
theorem ws_push {X : Xb} {S S' : Sg} {mi mi' : Mem} {E : va_E} (hn : S'.1 = S.1 + 1) (hE : cellE X S' mi' S.1 = E) (ho : ∀ j, j < S.1 → cellE X S' mi' j = cellE X S mi j) : wsOf X S mi ++ [(X.1 + S.1, E)] = wsOf X S' mi' := by
  unfold wsOf
  rw [hn, List.range_succ, List.map_append, List.map_singleton, hE]
  congr 1
  apply List.map_congr_left
  intro j hj
  rw [ho j (List.mem_range.mp hj)]
theorem flds_len (b c : Nat) (f : Nat → Int32) (g : Nat → Option Nat) : (flds b c f g).length = nF c := by simp [flds]
theorem flds_at {b c k : Nat} {f : Nat → Int32} {g : Nat → Option Nat} (h : k < nF c) : (flds b c f g)[k]? = some (if isR c k then va_rf ((g k).map (b + ·)) else .int (f k)) := by
  unfold flds
  rw [List.getElem?_map, List.getElem?_range h]; rfl
theorem flds_set {b c k : Nat} {f f' : Nat → Int32} {g g' : Nat → Option Nat} {v : Value} (hv : (if isR c k then va_rf ((g' k).map (b + ·)) else .int (f' k)) = v) (ho : ∀ j, j ≠ k → f' j = f j ∧ g' j = g j) : (flds b c f g).set k v = flds b c f' g' := by
  apply List.ext_getElem?
  intro j
  rw [List.getElem?_set]
  by_cases hj : j < nF c
  · rw [flds_at hj, flds_at hj]
    by_cases hkj : k = j
    · subst hkj
      simp [flds_len, hj, hv]
    · rw [if_neg hkj, (ho j (fun e => hkj e.symm)).1, (ho j (fun e => hkj e.symm)).2]
  · rw [List.getElem?_eq_none (l := flds b c f' g') (by rw [flds_len]; omega), List.getElem?_eq_none (l := flds b c f g) (by rw [flds_len]; omega)]
    by_cases hkj : k = j
    · subst hkj
      simp [flds_len, hj]
    · rw [if_neg hkj]
theorem cell_obj {X : Xb} {S : Sg} {mi : Mem} {i c z : Nat} (h : Kd S i c z) (hc : c < 8) : cellE X S mi i = .inr (c, flds X.1 c (mi i) (S.2.2 i)) := by
  unfold cellE
  rw [h.2]; simp [hc]
theorem cell_int {X : Xb} {S : Sg} {mi : Mem} {i c z : Nat} (h : Kd S i c z) (hc : ¬ c < 8) (hc2 : c < 11) : cellE X S mi i = .inl (X.2.2.1 (c - 8), z, .inl (mi i)) := by
  unfold cellE
  rw [h.2]; simp [hc, hc2]
theorem cell_ref {X : Xb} {S : Sg} {mi : Mem} {i c z : Nat} (h : Kd S i c z) (hc : ¬ c < 11) : cellE X S mi i = .inl (X.2.2.1 (c - 8), z, .inr (.inr (.inr (.inr (fun j => (S.2.2 i j).map (X.1 + ·)))))) := by
  unfold cellE
  rw [h.2]; simp [hc, show ¬ c < 8 by omega]
theorem cell_eq {X : Xb} {S S' : Sg} {mi mi' : Mem} {j : Nat} (hk : S'.2.1 j = S.2.1 j) (hm : mi' j = mi j) (hr : S'.2.2 j = S.2.2 j) : cellE X S' mi' j = cellE X S mi j := by
  unfold cellE
  rw [hk, hm, hr]
theorem m_up_ne {mi : Mem} {i j a : Nat} {v : Int32} (h : a ≠ i) : m_up mi i j v a = mi a := by
  funext k
  simp [m_up, h]
theorem r_up_ne {mr : Rfm} {i j a : Nat} {v : Option Nat} (h : a ≠ i) : r_up mr i j v a = mr a := by
  funext k
  simp [r_up, h]
theorem m_up_row (mi : Mem) (i j : Nat) (v : Int32) : m_up mi i j v i = upd (mi i) j v := by
  funext k
  simp [m_up, upd]
/-! the locals -/
def prs (L : List (Option Value)) : List (Nat × Value) := (List.range L.length).filterMap (fun i => (L.getD i none).map (fun v => (i, v)))
theorem prs_mem {L : List (Option Value)} {i : Nat} {v : Value} : (i, v) ∈ prs L ↔ L[i]? = some (some v) := by
  unfold prs
  rw [List.mem_filterMap]
  constructor
  · rintro ⟨a, ha, h⟩
    rw [List.mem_range] at ha
    rw [Option.map_eq_some_iff] at h
    obtain ⟨w, hw, e⟩ := h
    cases e
    rw [List.getD_eq_getElem?_getD, List.getElem?_eq_getElem ha, Option.getD_some] at hw
    rw [List.getElem?_eq_getElem ha, hw]
  · intro h
    have hl : i < L.length := (List.getElem?_eq_some_iff.mp h).1
    refine ⟨i, List.mem_range.mpr hl, ?_⟩
    rw [List.getD_eq_getElem?_getD, h]; rfl
def Lv (ls : Array Slot) (nL : Nat) (L : List (Option Value)) : Prop := L.length = nL ∧ lv_has ls nL (prs L) ∧ ∀ (i : Nat) (v : Value), L[i]? = some (some v) → v.category = 1
theorem Lv.at {ls : Array Slot} {nL : Nat} {L : List (Option Value)} (h : Lv ls nL L) {i : Nat} {v : Value} (hi : L[i]? = some (some v)) : ls[i]? = some (.val v) := h.2.1.2.2 (i, v) (prs_mem.mpr hi)
theorem Lv.store {ls' : Array Slot} {nL : Nat} {L : List (Option Value)} {i : Nat} {x : Value} (hlen : L.length = nL) (hcat : ∀ (i : Nat) (v : Value), L[i]? = some (some v) → v.category = 1) (hi : i < nL) (hx : x.category = 1)
    (h : lv_has ls' nL ((i, x) :: (prs L).filter (fun q => !(q.1 == i) && !(q.1 + 1 == i && q.2.category == 2)))) : Lv ls' nL (L.set i (some x)) := by
  have key : ∀ (j : Nat) (v : Value), (L.set i (some x))[j]? = some (some v) → (j = i ∧ v = x) ∨ (j ≠ i ∧ L[j]? = some (some v)) := by
    intro j v hj
    rw [List.getElem?_set] at hj
    by_cases e : i = j
    · subst e
      rw [if_pos rfl, if_pos (by omega)] at hj
      cases hj; exact Or.inl ⟨rfl, rfl⟩
    · rw [if_neg e] at hj
      exact Or.inr ⟨fun q => e q.symm, hj⟩
  refine ⟨by rw [List.length_set]; exact hlen, ⟨h.1, h.2.1, fun q hq => ?_⟩, fun j v hj => ?_⟩
  · obtain ⟨j, v⟩ := q
    rcases key j v (prs_mem.mp hq) with ⟨rfl, rfl⟩ | ⟨e, hj⟩
    · exact h.2.2 _ List.mem_cons_self
    · refine h.2.2 _ (List.mem_cons_of_mem _ (List.mem_filter.mpr ⟨prs_mem.mpr hj, ?_⟩))
      have hc := hcat j v hj
      simp [e, hc]
  · rcases key j v hj with ⟨rfl, rfl⟩ | ⟨e, hj⟩
    · exact hx
    · exact hcat j v hj
/-- fewer known locals -/
def lsub : List (Option Value) → List (Option Value) → Prop
  | [], [] => True
  | a :: A, b :: B => (a = b ∨ a = none) ∧ lsub A B
  | _, _ => False
theorem lsub_at : ∀ {A B : List (Option Value)}, lsub A B → A.length = B.length ∧ ∀ (i : Nat) (v : Value), A[i]? = some (some v) → B[i]? = some (some v)
  | [], [], _ => ⟨rfl, fun i v h => by simp at h⟩
  | a :: A, b :: B, h => by
    obtain ⟨h1, h2⟩ := lsub_at h.2
    refine ⟨by simp [h1], fun i v hv => ?_⟩
    cases i with
    | zero =>
      rcases h.1 with rfl | rfl
      · exact hv
      · simp at hv
    | succ n =>
      simp only [List.getElem?_cons_succ] at hv ⊢
      exact h2 n v hv
  | [], _ :: _, h => h.elim
  | _ :: _, [], h => h.elim
theorem Lv.sub {ls : Array Slot} {nL : Nat} {A B : List (Option Value)} (h : Lv ls nL B) (hs : lsub A B) : Lv ls nL A := by
  obtain ⟨h1, h2⟩ := lsub_at hs
  refine ⟨h1.trans h.1, ⟨h.2.1.1, h.2.1.2.1, fun q hq => ?_⟩, fun i v hv => h.2.2 i v (h2 i v hv)⟩
  obtain ⟨j, v⟩ := q
  exact h.at (h2 j v (prs_mem.mp hq))
end
section
/-! What stays through a whole run (Fx), the judgement MW (W over the world as numbers), its rows, an instruction each. -/
def aoC : List String := [RX0, RX1, RX2, RX4]
def kaF : Nat → Value := fun j => .int (([-1, 0, 0, 1, 2, 0] : List Int32).getD j 0)
def Fx (X : Xb) (U : State) : Prop :=
  va_K X.2.1 vwCl (tysOf X.2.2.1) U ∧ (∀ w ∈ nestW, va_Nw w U) ∧ (∀ C ∈ aoC, va_AO C U) ∧ va_Z RX6 "KIND_ABOVE" "[I" (.ref X.2.2.2.1) (bA X) U U.heap ∧ va_T .int X.2.2.2.1 6 kaF (bA X) U U.heap ∧
  vk_S 6 sLen sByt X.2.2.2.2.1 X.2.2.2.2.2.1 (bA X) U U.heap ∧ (∀ i, i < 6 → vk_R RX3 (sIdx i) (sTx i) (X.2.2.2.2.1 i) U) ∧
  va_Z RJ0 "COMPACT_STRINGS" "Z" (.int 1) (bA X) U U.heap ∧ va_Zq RJ3 "SIOOBE_FORMATTER" "Ljava/util/function/BiFunction;" (bA X) U U.heap ∧ va_X X.2.2.2.2.2.2.1 X.2.2.2.2.2.2.2.1 X.2.2.2.2.2.2.2.2 U U.heap ∧ X.2.2.2.2.2.2.1 < X.1
theorem nestW_warm {s U : State} (hW : s.WarmedH U.vm) (h : ∀ w ∈ nestW, va_Nw w s) : ∀ w ∈ nestW, va_Nw w U := by
  intro w hw
  have h1 := h w hw
  simp only [nestW, List.mem_cons, List.not_mem_nil, or_false] at hw
  rcases hw with rfl | rfl | rfl | rfl | rfl | rfl | rfl | rfl | rfl | rfl | rfl <;> first | exact va_Nw.warmM hW h1 | exact va_Nw.warmF hW h1
theorem Fx.go {X : Xb} {s U : State} (h : Fx X s) (hb : X.1 ≤ s.heap.size) (hW : s.WarmedH U.vm) (hk : ∀ q : Nat, q < s.heap.size → ¬ bA X q → U.heap[q]? = s.heap[q]?) : Fx X U := by
  obtain ⟨h1, h2, h3, h4, h5, h6, h7, h8, h9, h10, h11⟩ := h
  have ha := hW.alike
  refine ⟨va_K.moved ha h1, nestW_warm hW h2, fun C hC => va_AO.moved ha (h3 C hC), (va_Z.moved ha h4).kept hk, (va_T.moved ha h5).kept hk, (vk_S.moved ha h6).kept hk, fun i hi => vk_R.warm hW (h7 i hi), (va_Z.moved ha h8).kept hk, (va_Zq.moved ha h9).kept hk, ?_, h11⟩
  have hq : ¬ bA X X.2.2.2.2.2.2.1 := Nat.not_le.mpr h11
  exact (va_X.moved ha h10).kept (hk _ (by omega) hq)
/-- the method fr at its entry: the machine, its code, the tables' words, what stays -/
def Cx (fr : Fr) (X : Xb) (p : Program) (s : State) (m : MethodId) (args : Array Value) (meth : Method) (c : Code) : Prop :=
  p.tables.exec = Jvm.exec ∧ c.code = fr.2.1 ∧ c.maxLocals = fr.2.2.1 ∧ s.vm.findClass fr.1.cls = some m.cls ∧ (∀ w ∈ TW, w.before args s = true) ∧ meth.sig.returnType = fr.2.2.2 ∧ meth.locks = false ∧ meth.name = fr.1.name ∧ X.1 ≤ s.heap.size ∧ Fx X s
abbrev Qt : Type := List Frame → Array Value → State → State → Prop
def MW (X : Xb) (fr : Fr) (R : Room) (kc sl pc : Nat) (L : List (Option Value)) (st : List Value) (S : Sg) (mi : Mem) (Q : Qt) : Prop :=
  ∀ (p : Program) (l : Launch) (e : Env) (s : State) (m : MethodId) (args : Array Value) (below : List Frame) (meth : Method) (c : Code) (H : Heap) (locs : List Loc) (ls : Array Slot), Cx fr X p s m args meth c → va_S (bA X) s.heap H locs → Wp X S mi H → Lv ls fr.2.2.1 L → W p l e R s m args below meth c H locs kc sl (Q below args s) (F0 m pc ls st)
abbrev Pt3 : Type := Option Value → Sg → Mem → Prop
def Qc3 (X : Xb) (P : Pt3) : Array Value → State → Outcome → State → Prop := fun _ st oc t => (∃ (r : Option Value) (S' : Sg) (mi' : Mem), oc = .returned r ∧ P r S' mi' ∧ Wp X S' mi' t.heap) ∧ va_F (bA X) st t
def mQ (X : Xb) (mc ms : Nat) (P : Pt3) : Qt := fun below args s => MQ below (Qc3 X P) args s mc ms (bA X)
def rmOf (d mc ms : Nat) : Room := { frames := d, cells := mc, slots := ms, locals := 40 * d }
def Pre3 (X : Xb) (S : Sg) (mi : Mem) : State → Prop := fun U => Wp X S mi U.heap ∧ Fx X U
/-- THE CONTRACT: fr, called with av in the world S, mi, ends, its answer and the world behind it are of P; d frames, mc cells, ms slots -/
def Ok (d mc ms : Nat) (fr : Fr) (X : Xb) (av : List Value) (S : Sg) (mi : Mem) (P : Pt3) : Prop :=
  ∀ l : Launch, Met l fr.1 (.code fr.1 fr.2.1 fr.2.2.1 fr.2.2.2 :: TW) (rmOf d mc ms) (va_Pc av (Pre3 X S mi)) (Qc3 X P) mc ms (bA X)
abbrev lv0 (av : List Value) (n : Nat) : List (Option Value) := av.map some ++ List.replicate (n - av.length) none
theorem lg_sl1 : ∀ (av : List Value), (∀ v ∈ av, v.category = 1) → lg_sl av = av.map Slot.val
  | [], _ => rfl
  | v :: av, h => by
    have h1 : v.category = 1 := h v List.mem_cons_self
    have ih := lg_sl1 av (fun w hw => h w (List.mem_cons_of_mem _ hw))
    unfold lg_sl at ih ⊢
    rw [List.flatMap_cons, ih]
    simp [h1]
theorem lv_args1 : ∀ (av : List Value) (k : Nat), (∀ v ∈ av, v.category = 1) → ∀ (i : Nat) (v : Value), av[i]? = some v → (k + i, v) ∈ lv_args k av
  | [], _, _, i, v, h => by simp at h
  | a :: av, k, hc, i, v, h => by
    have h1 : a.category = 1 := hc a List.mem_cons_self
    have ih := lv_args1 av (k + 1) (fun w hw => hc w (List.mem_cons_of_mem _ hw))
    cases i with
    | zero =>
      simp only [List.getElem?_cons_zero, Option.some.injEq] at h
      subst h
      simp [lv_args]
    | succ n =>
      simp only [List.getElem?_cons_succ] at h
      have := ih n v h
      rw [show k + 1 + n = k + (n + 1) by omega] at this
      simp only [lv_args, h1]
      exact List.mem_cons_of_mem _ this
theorem Lv_entry {av : List Value} {n : Nat} (hc : ∀ v ∈ av, v.category = 1) (hn : av.length ≤ n) : Lv ((lg_sl av ++ List.replicate (n - (lg_sl av).length) Slot.unset).toArray) n (lv0 av n) := by
  have hlen : (lg_sl av).length = av.length := by rw [lg_sl1 av hc, List.length_map]
  have h0 := lv_entry av (n := n) (by rw [hlen]; exact hn)
  have key : ∀ (i : Nat) (v : Value), (lv0 av n)[i]? = some (some v) → av[i]? = some v := by
    intro i v h
    unfold lv0 at h
    by_cases hi : i < av.length
    · rw [List.getElem?_append_left (by simpa using hi), List.getElem?_map] at h
      rw [Option.map_eq_some_iff] at h
      obtain ⟨w, hw, e⟩ := h
      cases e; exact hw
    · rw [List.getElem?_append_right (by simpa using hi)] at h
      rw [List.getElem?_replicate] at h
      split at h <;> cases h
  refine ⟨by simp; omega, ⟨h0.1, h0.2.1, fun q hq => ?_⟩, fun i v h => hc v (List.mem_of_getElem? (key i v h))⟩
  obtain ⟨i, v⟩ := q
  have := lv_args1 av 0 hc i v (key i v (prs_mem.mp hq))
  rw [Nat.zero_add] at this
  exact h0.2.2 _ this
theorem Ok.of {d mc ms : Nat} {fr : Fr} {X : Xb} {av : List Value} {S : Sg} {mi : Mem} {P : Pt3} (hy : plainName fr.1.cls = true) (hc : ∀ v ∈ av, v.category = 1) (hn : av.length ≤ fr.2.2.1)
    (h : MW X fr (rmOf d mc ms) 0 0 0 (lv0 av fr.2.2.1) [] S mi (mQ X mc ms P)) : Ok d mc ms fr X av S mi P := by
  intro l
  refine Met.ofW (cc := fr.2.1) (maxL := fr.2.2.1) (ret := fr.2.2.2) hy rfl ?_
  intro p e s m args below meth c s₁ B hml hv
  obtain ⟨rfl, hW, hF⟩ := hv
  have hts := atoms_spec (ws := .code fr.1 fr.2.1 fr.2.2.1 fr.2.2.2 :: TW) B.pre
  rw [lg_entry_eq]
  exact h p l e s m av.toArray below meth c s.heap [] _ ⟨B.exec, B.bytes, hml, findClass_of_methodNamed B.named, fun w hw => hts w (List.mem_cons_of_mem _ hw), B.returns, B.notSynchronized, (name_of_methodNamed B.named B.method).1, by rw [hW.1]; exact Nat.le_add_right _ _, hF⟩ va_S.rf hW (Lv_entry hc hn)
theorem Ok.post {d mc ms : Nat} {fr : Fr} {X : Xb} {av : List Value} {S : Sg} {mi : Mem} {P P' : Pt3} (h : Ok d mc ms fr X av S mi P) (hp : ∀ r S' mi', P r S' mi' → P' r S' mi') : Ok d mc ms fr X av S mi P' := by
  intro l p e ha hc hk s m args below hf happ hpre hK
  obtain ⟨k, o, h1, h2, h3, ⟨⟨r, S', mi', e1, e2, e3⟩, hF⟩, hL⟩ := h l p e ha hc hk s m args below hf happ hpre hK
  exact ⟨k, o, h1, h2, h3, ⟨⟨r, S', mi', e1, hp _ _ _ e2, e3⟩, hF⟩, hL⟩
end
section
section MWR
variable {X : Xb} {fr : Fr} {R : Room} {kc sl pc : Nat} {L : List (Option Value)} {st : List Value} {S : Sg} {mi : Mem} {Q : Qt}
/-- Java's rest -/
def jr (x y : Int32) : Int32 := x - x / y * y
def jus (x y : Int32) : Int32 := (x.toUInt32 >>> (y.toUInt32 &&& Int32.toUInt32 31)).toInt32
abbrev Ct (v : Value) : Prop := v.category = 1
theorem MW.eq {pc' : Nat} {L' : List (Option Value)} {st' : List Value} {S' : Sg} {mi' : Mem} (h1 : pc = pc') (h2 : L = L') (h3 : st = st') (h4 : S = S') (h5 : mi = mi') (k : MW X fr R kc sl pc' L' st' S' mi' Q) : MW X fr R kc sl pc L st S mi Q := by
  subst h1; subst h2; subst h3; subst h4; subst h5; exact k
theorem MW.sub {L' : List (Option Value)} (h : lsub L' L) (k : MW X fr R kc sl pc L' st S mi Q) : MW X fr R kc sl pc L st S mi Q :=
  fun p l e s m args below meth c H locs ls C hS hP hL => k p l e s m args below meth c H locs ls C hS hP (hL.sub h)
theorem MW.widen {k n : Nat} (h1 : kc ≤ k) (h2 : sl ≤ n) (kk : MW X fr R k n pc L st S mi Q) : MW X fr R kc sl pc L st S mi Q :=
  fun p l e s m args below meth c H locs ls C hS hP hL => W.widen h1 h2 (kk p l e s m args below meth c H locs ls C hS hP hL)
theorem mw_iconst {n : Int} {v : Int32} (hd : decode fr.2.1 pc = .ok (.iconst n, 1)) (hv : Int32.ofInt n = v) (k : MW X fr R kc sl (pc + 1) L (.int v :: st) S mi Q) : MW X fr R kc sl pc L (st) S mi Q :=
  fun p l e s m args below meth c H locs ls C hS hP hL => lv_iconst C.1 C.2.1 hd hv (k p l e s m args below meth c H locs ls C hS hP hL)
theorem mw_bipush {n : Int} {v : Int32} (hd : decode fr.2.1 pc = .ok (.bipush n, 2)) (hv : (Int8.ofInt n).toInt32 = v) (k : MW X fr R kc sl (pc + 2) L (.int v :: st) S mi Q) : MW X fr R kc sl pc L (st) S mi Q :=
  fun p l e s m args below meth c H locs ls C hS hP hL => lv_bipush C.1 C.2.1 hd hv (k p l e s m args below meth c H locs ls C hS hP hL)
theorem mw_sipush {n : Int} {v : Int32} (hd : decode fr.2.1 pc = .ok (.sipush n, 3)) (hv : (Int16.ofInt n).toInt32 = v) (k : MW X fr R kc sl (pc + 3) L (.int v :: st) S mi Q) : MW X fr R kc sl pc L (st) S mi Q :=
  fun p l e s m args below meth c H locs ls C hS hP hL => lv_sipush C.1 C.2.1 hd hv (k p l e s m args below meth c H locs ls C hS hP hL)
theorem mw_null  (hd : decode fr.2.1 pc = .ok (.aconst_null, 1))  (k : MW X fr R kc sl (pc + 1) L (.null :: st) S mi Q) : MW X fr R kc sl pc L (st) S mi Q :=
  fun p l e s m args below meth c H locs ls C hS hP hL => lv_null C.1 C.2.1 hd (k p l e s m args below meth c H locs ls C hS hP hL)
theorem mw_ldc {i : Nat} {v : Int32} (hd : decode fr.2.1 pc = .ok (.ldc i, 2)) (hv : Cond.constant fr.1.cls i v ∈ TW) (k : MW X fr R kc sl (pc + 2) L (.int v :: st) S mi Q) : MW X fr R kc sl pc L (st) S mi Q :=
  fun p l e s m args below meth c H locs ls C hS hP hL => lv_ldc C.1 C.2.1 C.2.2.2.1 (C.2.2.2.2.1 _ hv) hd (k p l e s m args below meth c H locs ls C hS hP hL)
theorem mw_ldcw {i : Nat} {v : Int32} (hd : decode fr.2.1 pc = .ok (.ldc_w i, 3)) (hv : Cond.constant fr.1.cls i v ∈ TW) (k : MW X fr R kc sl (pc + 3) L (.int v :: st) S mi Q) : MW X fr R kc sl pc L (st) S mi Q :=
  fun p l e s m args below meth c H locs ls C hS hP hL => lv_ldcw C.1 C.2.1 C.2.2.2.1 (C.2.2.2.2.1 _ hv) hd (k p l e s m args below meth c H locs ls C hS hP hL)
theorem mw_iload_n {k : Fin 4} {x : Int32} (hd : decode fr.2.1 pc = .ok (.iload_n k, 1)) (hl : L[(k : Nat)]? = some (some (.int x))) (k : MW X fr R kc sl (pc + 1) L (.int x :: st) S mi Q) : MW X fr R kc sl pc L (st) S mi Q :=
  fun p l e s m args below meth c H locs ls C hS hP hL => lv_iload_n C.1 C.2.1 hd rfl (hL.at hl) (k p l e s m args below meth c H locs ls C hS hP hL)
theorem mw_iload {i : Nat} {x : Int32} (hd : decode fr.2.1 pc = .ok (.iload i, 2)) (hl : L[i]? = some (some (.int x))) (k : MW X fr R kc sl (pc + 2) L (.int x :: st) S mi Q) : MW X fr R kc sl pc L (st) S mi Q :=
  fun p l e s m args below meth c H locs ls C hS hP hL => lv_iload C.1 C.2.1 hd (hL.at hl) (k p l e s m args below meth c H locs ls C hS hP hL)
theorem mw_aload_n {k : Fin 4} {x : Nat} (hd : decode fr.2.1 pc = .ok (.aload_n k, 1)) (hl : L[(k : Nat)]? = some (some (.ref x))) (k : MW X fr R kc sl (pc + 1) L (.ref x :: st) S mi Q) : MW X fr R kc sl pc L (st) S mi Q :=
  fun p l e s m args below meth c H locs ls C hS hP hL => lv_aload_n C.1 C.2.1 hd rfl (hL.at hl) (k p l e s m args below meth c H locs ls C hS hP hL)
theorem mw_aload {i : Nat} {x : Nat} (hd : decode fr.2.1 pc = .ok (.aload i, 2)) (hl : L[i]? = some (some (.ref x))) (k : MW X fr R kc sl (pc + 2) L (.ref x :: st) S mi Q) : MW X fr R kc sl pc L (st) S mi Q :=
  fun p l e s m args below meth c H locs ls C hS hP hL => lv_aload C.1 C.2.1 hd (hL.at hl) (k p l e s m args below meth c H locs ls C hS hP hL)
theorem mw_aload_nN {k : Fin 4} (hd : decode fr.2.1 pc = .ok (.aload_n k, 1)) (hl : L[(k : Nat)]? = some (some .null)) (k : MW X fr R kc sl (pc + 1) L (.null :: st) S mi Q) : MW X fr R kc sl pc L (st) S mi Q :=
  fun p l e s m args below meth c H locs ls C hS hP hL => lv_aload_nN C.1 C.2.1 hd rfl (hL.at hl) (k p l e s m args below meth c H locs ls C hS hP hL)
theorem mw_istore_n {k : Fin 4} {x : Int32} (hd : decode fr.2.1 pc = .ok (.istore_n k, 1)) (hi : (k : Nat) < fr.2.2.1) (k : MW X fr R kc sl (pc + 1) (L.set (k : Nat) (some (.int x))) st S mi Q) : MW X fr R kc sl pc L (.int x :: st) S mi Q :=
  fun p l e s m args below meth c H locs ls C hS hP hL => lv_istore_n C.1 C.2.1 hd rfl hL.2.1 hi rfl (fun ls' h => k p l e s m args below meth c H locs ls' C hS hP (Lv.store hL.1 hL.2.2 hi rfl h))
theorem mw_istore {i : Nat} {x : Int32} (hd : decode fr.2.1 pc = .ok (.istore i, 2)) (hi : i < fr.2.2.1) (k : MW X fr R kc sl (pc + 2) (L.set i (some (.int x))) st S mi Q) : MW X fr R kc sl pc L (.int x :: st) S mi Q :=
  fun p l e s m args below meth c H locs ls C hS hP hL => lv_istore C.1 C.2.1 hd hL.2.1 hi rfl (fun ls' h => k p l e s m args below meth c H locs ls' C hS hP (Lv.store hL.1 hL.2.2 hi rfl h))
theorem mw_astore_n {k : Fin 4} {x : Nat} (hd : decode fr.2.1 pc = .ok (.astore_n k, 1)) (hi : (k : Nat) < fr.2.2.1) (k : MW X fr R kc sl (pc + 1) (L.set (k : Nat) (some (.ref x))) st S mi Q) : MW X fr R kc sl pc L (.ref x :: st) S mi Q :=
  fun p l e s m args below meth c H locs ls C hS hP hL => lv_astore_n C.1 C.2.1 hd rfl hL.2.1 hi rfl (fun ls' h => k p l e s m args below meth c H locs ls' C hS hP (Lv.store hL.1 hL.2.2 hi rfl h))
theorem mw_astore {i : Nat} {x : Nat} (hd : decode fr.2.1 pc = .ok (.astore i, 2)) (hi : i < fr.2.2.1) (k : MW X fr R kc sl (pc + 2) (L.set i (some (.ref x))) st S mi Q) : MW X fr R kc sl pc L (.ref x :: st) S mi Q :=
  fun p l e s m args below meth c H locs ls C hS hP hL => lv_astore C.1 C.2.1 hd hL.2.1 hi rfl (fun ls' h => k p l e s m args below meth c H locs ls' C hS hP (Lv.store hL.1 hL.2.2 hi rfl h))
theorem mw_astore_nN {k : Fin 4} (hd : decode fr.2.1 pc = .ok (.astore_n k, 1)) (hi : (k : Nat) < fr.2.2.1) (k : MW X fr R kc sl (pc + 1) (L.set (k : Nat) (some (.null))) st S mi Q) : MW X fr R kc sl pc L (.null :: st) S mi Q :=
  fun p l e s m args below meth c H locs ls C hS hP hL => lv_astore_nN C.1 C.2.1 hd rfl hL.2.1 hi rfl (fun ls' h => k p l e s m args below meth c H locs ls' C hS hP (Lv.store hL.1 hL.2.2 hi rfl h))
theorem mw_iinc {i : Nat} {n : Int} {x v : Int32} (hd : decode fr.2.1 pc = .ok (.iinc i n, 3)) (hl : L[i]? = some (some (.int x))) (hi : i < fr.2.2.1) (hv : x + Int32.ofInt n = v) (k : MW X fr R kc sl (pc + 3) (L.set i (some (.int v))) st S mi Q) : MW X fr R kc sl pc L st S mi Q := by
  intro p l e s m args below meth c H locs ls C hS hP hL
  obtain ⟨j, hj⟩ := List.getElem?_of_mem (prs_mem.mpr hl)
  exact lv_iinc C.1 C.2.1 hd hL.2.1 hj hv hi rfl (fun ls' h => k p l e s m args below meth c H locs ls' C hS hP (Lv.store hL.1 hL.2.2 hi rfl h))
theorem mw_iadd {x y : Int32} (hd : decode fr.2.1 pc = .ok (.iadd, 1))  (k : MW X fr R kc sl (pc + 1) L (.int (x + y) :: st) S mi Q) : MW X fr R kc sl pc L (.int y :: .int x :: st) S mi Q :=
  fun p l e s m args below meth c H locs ls C hS hP hL => lv_iadd C.1 C.2.1 hd (k p l e s m args below meth c H locs ls C hS hP hL)
theorem mw_isub {x y : Int32} (hd : decode fr.2.1 pc = .ok (.isub, 1))  (k : MW X fr R kc sl (pc + 1) L (.int (x - y) :: st) S mi Q) : MW X fr R kc sl pc L (.int y :: .int x :: st) S mi Q :=
  fun p l e s m args below meth c H locs ls C hS hP hL => lv_isub C.1 C.2.1 hd (k p l e s m args below meth c H locs ls C hS hP hL)
theorem mw_imul {x y : Int32} (hd : decode fr.2.1 pc = .ok (.imul, 1))  (k : MW X fr R kc sl (pc + 1) L (.int (x * y) :: st) S mi Q) : MW X fr R kc sl pc L (.int y :: .int x :: st) S mi Q :=
  fun p l e s m args below meth c H locs ls C hS hP hL => lv_imul C.1 C.2.1 hd (k p l e s m args below meth c H locs ls C hS hP hL)
theorem mw_iand {x y : Int32} (hd : decode fr.2.1 pc = .ok (.iand, 1))  (k : MW X fr R kc sl (pc + 1) L (.int (x &&& y) :: st) S mi Q) : MW X fr R kc sl pc L (.int y :: .int x :: st) S mi Q :=
  fun p l e s m args below meth c H locs ls C hS hP hL => lv_iand C.1 C.2.1 hd (k p l e s m args below meth c H locs ls C hS hP hL)
theorem mw_ior {x y : Int32} (hd : decode fr.2.1 pc = .ok (.ior, 1))  (k : MW X fr R kc sl (pc + 1) L (.int (x ||| y) :: st) S mi Q) : MW X fr R kc sl pc L (.int y :: .int x :: st) S mi Q :=
  fun p l e s m args below meth c H locs ls C hS hP hL => lv_ior C.1 C.2.1 hd (k p l e s m args below meth c H locs ls C hS hP hL)
theorem mw_ixor {x y : Int32} (hd : decode fr.2.1 pc = .ok (.ixor, 1))  (k : MW X fr R kc sl (pc + 1) L (.int (x ^^^ y) :: st) S mi Q) : MW X fr R kc sl pc L (.int y :: .int x :: st) S mi Q :=
  fun p l e s m args below meth c H locs ls C hS hP hL => lv_ixor C.1 C.2.1 hd (k p l e s m args below meth c H locs ls C hS hP hL)
theorem mw_ishl {x y : Int32} (hd : decode fr.2.1 pc = .ok (.ishl, 1))  (k : MW X fr R kc sl (pc + 1) L (.int (x <<< (y &&& 31)) :: st) S mi Q) : MW X fr R kc sl pc L (.int y :: .int x :: st) S mi Q :=
  fun p l e s m args below meth c H locs ls C hS hP hL => lv_ishl C.1 C.2.1 hd (k p l e s m args below meth c H locs ls C hS hP hL)
theorem mw_ishr {x y : Int32} (hd : decode fr.2.1 pc = .ok (.ishr, 1))  (k : MW X fr R kc sl (pc + 1) L (.int (x >>> (y &&& 31)) :: st) S mi Q) : MW X fr R kc sl pc L (.int y :: .int x :: st) S mi Q :=
  fun p l e s m args below meth c H locs ls C hS hP hL => lv_ishr C.1 C.2.1 hd (k p l e s m args below meth c H locs ls C hS hP hL)
theorem mw_iushr {x y : Int32} (hd : decode fr.2.1 pc = .ok (.iushr, 1))  (k : MW X fr R kc sl (pc + 1) L (.int (jus x y) :: st) S mi Q) : MW X fr R kc sl pc L (.int y :: .int x :: st) S mi Q :=
  fun p l e s m args below meth c H locs ls C hS hP hL => lv_iushr C.1 C.2.1 hd rfl (k p l e s m args below meth c H locs ls C hS hP hL)
theorem mw_idiv {x y : Int32} (hd : decode fr.2.1 pc = .ok (.idiv, 1)) (hy : ¬ y = 0) (k : MW X fr R kc sl (pc + 1) L (.int (x / y) :: st) S mi Q) : MW X fr R kc sl pc L (.int y :: .int x :: st) S mi Q :=
  fun p l e s m args below meth c H locs ls C hS hP hL => lv_idiv C.1 C.2.1 hd hy (k p l e s m args below meth c H locs ls C hS hP hL)
theorem mw_irem {x y : Int32} (hd : decode fr.2.1 pc = .ok (.irem, 1)) (hy : ¬ y = 0) (k : MW X fr R kc sl (pc + 1) L (.int (jr x y) :: st) S mi Q) : MW X fr R kc sl pc L (.int y :: .int x :: st) S mi Q :=
  fun p l e s m args below meth c H locs ls C hS hP hL => lv_irem C.1 C.2.1 hd hy (k p l e s m args below meth c H locs ls C hS hP hL)
theorem mw_ineg {x : Int32} (hd : decode fr.2.1 pc = .ok (.ineg, 1))  (k : MW X fr R kc sl (pc + 1) L (.int (-x) :: st) S mi Q) : MW X fr R kc sl pc L (.int x :: st) S mi Q :=
  fun p l e s m args below meth c H locs ls C hS hP hL => lv_ineg C.1 C.2.1 hd (k p l e s m args below meth c H locs ls C hS hP hL)
theorem mw_i2s {x : Int32} (hd : decode fr.2.1 pc = .ok (.i2s, 1))  (k : MW X fr R kc sl (pc + 1) L (.int x.toInt16.toInt32 :: st) S mi Q) : MW X fr R kc sl pc L (.int x :: st) S mi Q :=
  fun p l e s m args below meth c H locs ls C hS hP hL => lv_i2s C.1 C.2.1 hd rfl (k p l e s m args below meth c H locs ls C hS hP hL)
theorem mw_i2c {x : Int32} (hd : decode fr.2.1 pc = .ok (.i2c, 1))  (k : MW X fr R kc sl (pc + 1) L (.int (x.toUInt32 % 65536).toInt32 :: st) S mi Q) : MW X fr R kc sl pc L (.int x :: st) S mi Q :=
  fun p l e s m args below meth c H locs ls C hS hP hL => lv_i2c C.1 C.2.1 hd rfl (k p l e s m args below meth c H locs ls C hS hP hL)
theorem mw_dup {v : Value} (hd : decode fr.2.1 pc = .ok (.dup, 1)) (hv : v.category = 1) (k : MW X fr R kc sl (pc + 1) L (v :: v :: st) S mi Q) : MW X fr R kc sl pc L (v :: st) S mi Q :=
  fun p l e s m args below meth c H locs ls C hS hP hL => lv_dup C.1 C.2.1 hd hv (k p l e s m args below meth c H locs ls C hS hP hL)
theorem mw_pop {v : Value} (hd : decode fr.2.1 pc = .ok (.pop, 1)) (hv : v.category = 1) (k : MW X fr R kc sl (pc + 1) L (st) S mi Q) : MW X fr R kc sl pc L (v :: st) S mi Q :=
  fun p l e s m args below meth c H locs ls C hS hP hL => lv_pop C.1 C.2.1 hd hv (k p l e s m args below meth c H locs ls C hS hP hL)
theorem mw_dup2 {v w : Value} (hd : decode fr.2.1 pc = .ok (.dup2, 1)) (hv : v.category = 1) (hw : w.category = 1) (k : MW X fr R kc sl (pc + 1) L (v :: w :: v :: w :: st) S mi Q) : MW X fr R kc sl pc L (v :: w :: st) S mi Q :=
  fun p l e s m args below meth c H locs ls C hS hP hL => lv_dup2_11 C.1 C.2.1 hd hv hw (k p l e s m args below meth c H locs ls C hS hP hL)
theorem mw_if_eq {x : Int32} {off : Int} {tgt : Nat} (hd : decode fr.2.1 pc = .ok (.ifCond .eq off, 3)) (ht : (pc : Int) + off = (tgt : Int)) (kt : x = 0 → MW X fr R kc sl tgt L st S mi Q) (kf : ¬ x = 0 → MW X fr R kc sl (pc + 3) L st S mi Q) : MW X fr R kc sl pc L (.int x :: st) S mi Q :=
  fun p l e s m args below meth c H locs ls C hS hP hL => lv_if_eq C.1 C.2.1 hd ht (fun q => kt q p l e s m args below meth c H locs ls C hS hP hL) (fun q => kf q p l e s m args below meth c H locs ls C hS hP hL)
theorem mw_icmp_eq {x y : Int32} {off : Int} {tgt : Nat} (hd : decode fr.2.1 pc = .ok (.if_icmp .eq off, 3)) (ht : (pc : Int) + off = (tgt : Int)) (kt : x = y → MW X fr R kc sl tgt L st S mi Q) (kf : ¬ x = y → MW X fr R kc sl (pc + 3) L st S mi Q) : MW X fr R kc sl pc L (.int y :: .int x :: st) S mi Q :=
  fun p l e s m args below meth c H locs ls C hS hP hL => lv_icmp_eq C.1 C.2.1 hd ht (fun q => kt q p l e s m args below meth c H locs ls C hS hP hL) (fun q => kf q p l e s m args below meth c H locs ls C hS hP hL)
theorem mw_if_ne {x : Int32} {off : Int} {tgt : Nat} (hd : decode fr.2.1 pc = .ok (.ifCond .ne off, 3)) (ht : (pc : Int) + off = (tgt : Int)) (kt : ¬ x = 0 → MW X fr R kc sl tgt L st S mi Q) (kf : x = 0 → MW X fr R kc sl (pc + 3) L st S mi Q) : MW X fr R kc sl pc L (.int x :: st) S mi Q :=
  fun p l e s m args below meth c H locs ls C hS hP hL => lv_if_ne C.1 C.2.1 hd ht (fun q => kt q p l e s m args below meth c H locs ls C hS hP hL) (fun q => kf q p l e s m args below meth c H locs ls C hS hP hL)
theorem mw_icmp_ne {x y : Int32} {off : Int} {tgt : Nat} (hd : decode fr.2.1 pc = .ok (.if_icmp .ne off, 3)) (ht : (pc : Int) + off = (tgt : Int)) (kt : ¬ x = y → MW X fr R kc sl tgt L st S mi Q) (kf : x = y → MW X fr R kc sl (pc + 3) L st S mi Q) : MW X fr R kc sl pc L (.int y :: .int x :: st) S mi Q :=
  fun p l e s m args below meth c H locs ls C hS hP hL => lv_icmp_ne C.1 C.2.1 hd ht (fun q => kt q p l e s m args below meth c H locs ls C hS hP hL) (fun q => kf q p l e s m args below meth c H locs ls C hS hP hL)
theorem mw_if_lt {x : Int32} {off : Int} {tgt : Nat} (hd : decode fr.2.1 pc = .ok (.ifCond .lt off, 3)) (ht : (pc : Int) + off = (tgt : Int)) (kt : x < 0 → MW X fr R kc sl tgt L st S mi Q) (kf : ¬ x < 0 → MW X fr R kc sl (pc + 3) L st S mi Q) : MW X fr R kc sl pc L (.int x :: st) S mi Q :=
  fun p l e s m args below meth c H locs ls C hS hP hL => lv_if_lt C.1 C.2.1 hd ht (fun q => kt q p l e s m args below meth c H locs ls C hS hP hL) (fun q => kf q p l e s m args below meth c H locs ls C hS hP hL)
theorem mw_icmp_lt {x y : Int32} {off : Int} {tgt : Nat} (hd : decode fr.2.1 pc = .ok (.if_icmp .lt off, 3)) (ht : (pc : Int) + off = (tgt : Int)) (kt : x < y → MW X fr R kc sl tgt L st S mi Q) (kf : ¬ x < y → MW X fr R kc sl (pc + 3) L st S mi Q) : MW X fr R kc sl pc L (.int y :: .int x :: st) S mi Q :=
  fun p l e s m args below meth c H locs ls C hS hP hL => lv_icmp_lt C.1 C.2.1 hd ht (fun q => kt q p l e s m args below meth c H locs ls C hS hP hL) (fun q => kf q p l e s m args below meth c H locs ls C hS hP hL)
theorem mw_if_ge {x : Int32} {off : Int} {tgt : Nat} (hd : decode fr.2.1 pc = .ok (.ifCond .ge off, 3)) (ht : (pc : Int) + off = (tgt : Int)) (kt : 0 ≤ x → MW X fr R kc sl tgt L st S mi Q) (kf : ¬ 0 ≤ x → MW X fr R kc sl (pc + 3) L st S mi Q) : MW X fr R kc sl pc L (.int x :: st) S mi Q :=
  fun p l e s m args below meth c H locs ls C hS hP hL => lv_if_ge C.1 C.2.1 hd ht (fun q => kt q p l e s m args below meth c H locs ls C hS hP hL) (fun q => kf q p l e s m args below meth c H locs ls C hS hP hL)
theorem mw_icmp_ge {x y : Int32} {off : Int} {tgt : Nat} (hd : decode fr.2.1 pc = .ok (.if_icmp .ge off, 3)) (ht : (pc : Int) + off = (tgt : Int)) (kt : y ≤ x → MW X fr R kc sl tgt L st S mi Q) (kf : ¬ y ≤ x → MW X fr R kc sl (pc + 3) L st S mi Q) : MW X fr R kc sl pc L (.int y :: .int x :: st) S mi Q :=
  fun p l e s m args below meth c H locs ls C hS hP hL => lv_icmp_ge C.1 C.2.1 hd ht (fun q => kt q p l e s m args below meth c H locs ls C hS hP hL) (fun q => kf q p l e s m args below meth c H locs ls C hS hP hL)
theorem mw_if_gt {x : Int32} {off : Int} {tgt : Nat} (hd : decode fr.2.1 pc = .ok (.ifCond .gt off, 3)) (ht : (pc : Int) + off = (tgt : Int)) (kt : 0 < x → MW X fr R kc sl tgt L st S mi Q) (kf : ¬ 0 < x → MW X fr R kc sl (pc + 3) L st S mi Q) : MW X fr R kc sl pc L (.int x :: st) S mi Q :=
  fun p l e s m args below meth c H locs ls C hS hP hL => lv_if_gt C.1 C.2.1 hd ht (fun q => kt q p l e s m args below meth c H locs ls C hS hP hL) (fun q => kf q p l e s m args below meth c H locs ls C hS hP hL)
theorem mw_icmp_gt {x y : Int32} {off : Int} {tgt : Nat} (hd : decode fr.2.1 pc = .ok (.if_icmp .gt off, 3)) (ht : (pc : Int) + off = (tgt : Int)) (kt : y < x → MW X fr R kc sl tgt L st S mi Q) (kf : ¬ y < x → MW X fr R kc sl (pc + 3) L st S mi Q) : MW X fr R kc sl pc L (.int y :: .int x :: st) S mi Q :=
  fun p l e s m args below meth c H locs ls C hS hP hL => lv_icmp_gt C.1 C.2.1 hd ht (fun q => kt q p l e s m args below meth c H locs ls C hS hP hL) (fun q => kf q p l e s m args below meth c H locs ls C hS hP hL)
theorem mw_if_le {x : Int32} {off : Int} {tgt : Nat} (hd : decode fr.2.1 pc = .ok (.ifCond .le off, 3)) (ht : (pc : Int) + off = (tgt : Int)) (kt : x ≤ 0 → MW X fr R kc sl tgt L st S mi Q) (kf : ¬ x ≤ 0 → MW X fr R kc sl (pc + 3) L st S mi Q) : MW X fr R kc sl pc L (.int x :: st) S mi Q :=
  fun p l e s m args below meth c H locs ls C hS hP hL => lv_if_le C.1 C.2.1 hd ht (fun q => kt q p l e s m args below meth c H locs ls C hS hP hL) (fun q => kf q p l e s m args below meth c H locs ls C hS hP hL)
theorem mw_icmp_le {x y : Int32} {off : Int} {tgt : Nat} (hd : decode fr.2.1 pc = .ok (.if_icmp .le off, 3)) (ht : (pc : Int) + off = (tgt : Int)) (kt : x ≤ y → MW X fr R kc sl tgt L st S mi Q) (kf : ¬ x ≤ y → MW X fr R kc sl (pc + 3) L st S mi Q) : MW X fr R kc sl pc L (.int y :: .int x :: st) S mi Q :=
  fun p l e s m args below meth c H locs ls C hS hP hL => lv_icmp_le C.1 C.2.1 hd ht (fun q => kt q p l e s m args below meth c H locs ls C hS hP hL) (fun q => kf q p l e s m args below meth c H locs ls C hS hP hL)
theorem mw_goto {off : Int} {tgt : Nat} (hd : decode fr.2.1 pc = .ok (.goto off, 3)) (ht : (pc : Int) + off = (tgt : Int)) (k : MW X fr R kc sl tgt L st S mi Q) : MW X fr R kc sl pc L st S mi Q :=
  fun p l e s m args below meth c H locs ls C hS hP hL => lv_goto C.1 C.2.1 hd ht (k p l e s m args below meth c H locs ls C hS hP hL)
theorem mw_ifnonnull {x : Nat} {off : Int} {tgt : Nat} (hd : decode fr.2.1 pc = .ok (.ifnonnull off, 3)) (ht : (pc : Int) + off = (tgt : Int)) (k : MW X fr R kc sl tgt L st S mi Q) : MW X fr R kc sl pc L (.ref x :: st) S mi Q :=
  fun p l e s m args below meth c H locs ls C hS hP hL => lv_ifnonnull C.1 C.2.1 hd ht (k p l e s m args below meth c H locs ls C hS hP hL)
theorem mw_ifnonnullN {off : Int} (hd : decode fr.2.1 pc = .ok (.ifnonnull off, 3)) (k : MW X fr R kc sl (pc + 3) L st S mi Q) : MW X fr R kc sl pc L (.null :: st) S mi Q :=
  fun p l e s m args below meth c H locs ls C hS hP hL => lv_ifnonnullN C.1 C.2.1 hd (k p l e s m args below meth c H locs ls C hS hP hL)
/-- a switch by its table: the place that a number goes to -/
def tsTo (pc : Nat) (d lo hi : Int) (offs : Array Int) (x : Int32) : Int := if x.toInt < lo ∨ hi < x.toInt then pc + d else pc + (offs[(x.toInt - lo).toNat]?).getD 0
theorem mw_tsw {d lo hi : Int} {offs : Array Int} {len : Nat} {x : Int32} (hd : decode fr.2.1 pc = .ok (.tableswitch d lo hi offs, len)) (hsz : offs.size = (hi - lo + 1).toNat) (tgt : Nat) (ht : tsTo pc d lo hi offs x = (tgt : Int)) (k : MW X fr R kc sl tgt L st S mi Q) : MW X fr R kc sl pc L (.int x :: st) S mi Q := by
  intro p l e s m args below meth c H locs ls C hS hP hL
  unfold tsTo at ht
  by_cases h : x.toInt < lo ∨ hi < x.toInt
  · rw [if_pos h] at ht
    exact lv_tableOut C.1 C.2.1 hd h ht (k p l e s m args below meth c H locs ls C hS hP hL)
  · rw [if_neg h] at ht
    have h1 : ¬ x.toInt < lo := fun q => h (Or.inl q)
    have h2 : ¬ hi < x.toInt := fun q => h (Or.inr q)
    have hlt : (x.toInt - lo).toNat < offs.size := by rw [hsz]; omega
    rw [Array.getElem?_eq_getElem hlt, Option.getD_some] at ht
    exact lv_tableIn C.1 C.2.1 hd h1 h2 (Array.getElem?_eq_getElem hlt) ht (k p l e s m args below meth c H locs ls C hS hP hL)
theorem mw_lsw {d : Int} {ps : Array (Int × Int)} {len : Nat} {x : Int32} (hd : decode fr.2.1 pc = .ok (.lookupswitch d ps, len)) (hp : (ps.toList.zip (ps.toList.drop 1)).all (fun (a, next) => a.1 < next.1) = true) (tgt : Nat) (ht : (pc : Int) + Op.lookupswitch.offset ps.toList d x.toInt = (tgt : Int)) (k : MW X fr R kc sl tgt L st S mi Q) : MW X fr R kc sl pc L (.int x :: st) S mi Q :=
  fun p l e s m args below meth c H locs ls C hS hP hL => lv_lookup C.1 C.2.1 hd hp rfl ht (k p l e s m args below meth c H locs ls C hS hP hL)
theorem mw_iret {mc ms : Nat} {P : Pt3} {v : Int32} (hd : decode fr.2.1 pc = .ok (.ireturn, 1)) (hr : fr.2.2.2 = some .int) (h1 : kc ≤ mc) (h2 : sl ≤ ms) (hp : P (some (.int v)) S mi) : MW X fr R kc sl pc L [.int v] S mi (mQ X mc ms P) :=
  fun p l e s m args below meth c H locs ls C hS hP hL => W.widen h1 h2 (W.iret (v := v) C.1 C.2.1 (C.2.2.2.2.2.1.trans hr) (fun t ht hW => ⟨⟨_, S, mi, rfl, hp, by rw [ht]; exact hP⟩, hS.F ht⟩) hS.2.2 hd C.2.2.2.2.2.2.1)
theorem mw_zret {mc ms : Nat} {P : Pt3} {v : Int32} {ty : FieldType} (hd : decode fr.2.1 pc = .ok (.ireturn, 1)) (hr : fr.2.2.2 = some ty) (hn : narrow ty (.int v) = .int v) (h1 : kc ≤ mc) (h2 : sl ≤ ms) (hp : P (some (.int v)) S mi) : MW X fr R kc sl pc L [.int v] S mi (mQ X mc ms P) :=
  fun p l e s m args below meth c H locs ls C hS hP hL => W.widen h1 h2 (W.zret (v := v) C.1 C.2.1 (C.2.2.2.2.2.1.trans hr) hn (fun t ht hW => ⟨⟨_, S, mi, rfl, hp, by rw [ht]; exact hP⟩, hS.F ht⟩) hS.2.2 hd C.2.2.2.2.2.2.1)
theorem mw_vret {mc ms : Nat} {P : Pt3} (hd : decode fr.2.1 pc = .ok (.return_, 1)) (hr : fr.2.2.2 = none) (h1 : kc ≤ mc) (h2 : sl ≤ ms) (hp : P none S mi) : MW X fr R kc sl pc L [] S mi (mQ X mc ms P) :=
  fun p l e s m args below meth c H locs ls C hS hP hL => W.widen h1 h2 (W.vret C.1 C.2.1 (C.2.2.2.2.2.1.trans hr) (fun t ht hW => ⟨⟨_, S, mi, rfl, hp, by rw [ht]; exact hP⟩, hS.F ht⟩) hS.2.2 hd C.2.2.2.2.2.2.1)
theorem mw_aret {mc ms : Nat} {P : Pt3} {v : Value} {rt : FieldType} (hd : decode fr.2.1 pc = .ok (.areturn, 1)) (hr : fr.2.2.2 = some rt) (hrt : (∃ n, rt = .object n) ∨ ∃ t, rt = .array t) (hv : v = .null ∨ ∃ a, v = .ref a) (h1 : kc ≤ mc) (h2 : sl ≤ ms) (hp : P (some v) S mi) : MW X fr R kc sl pc L [v] S mi (mQ X mc ms P) :=
  fun p l e s m args below meth c H locs ls C hS hP hL => W.widen h1 h2 (W.aret (v := v) C.1 C.2.1 (C.2.2.2.2.2.1.trans hr) hrt hv (fun t ht hW => ⟨⟨_, S, mi, rfl, hp, by rw [ht]; exact hP⟩, hS.F ht⟩) hS.2.2 hd C.2.2.2.2.2.2.1)
end MWR
end
section
/-- own's entry idx is field k of class ci of vwCl -/
def FL (own : String) (idx ci k : Nat) : Prop := ∃ q : vw_C, vwCl[ci]? = some q ∧ k < q.2.2 ∧ (q.2.1 k).1 = q.1 ∧ Cond.fieldLink own idx q.1 (q.2.1 k).2.1 (q.2.1 k).2.2.1 ∈ TW
/-- its finality and its type -/
def FT (ci k : Nat) (fin : Bool) (ty : FieldType) : Prop := ∀ q : vw_C, vwCl[ci]? = some q → (q.2.1 k).2.2.2 = fin ∧ parseFieldDescriptor (q.2.1 k).2.2.1 = some ty
/-- what the tables say of class ci -/
def CI (ci : Nat) (q : vw_C) : Prop := (∀ w ∈ u_ws q.1 q.2.1 q.2.2, w ∈ TW) ∧ ci < 8 ∧ nF ci = q.2.2 ∧ (∃ ty : Nat → FieldType, (∀ k, k < q.2.2 → parseFieldDescriptor (q.2.1 k).2.2.1 = some (ty k)) ∧ (∀ a, a < q.2.2 → ∀ b, b < q.2.2 → a ≠ b → (q.2.1 a).2.1 ≠ (q.2.1 b).2.1) ∧ ∀ k, k < q.2.2 → defaultValue (ty k) = if isR ci k then .null else .int 0) ∧ Cond.instantiable q.1 q.2.2 ∈ TW ∧ Cond.initialized q.1 ∈ TW
theorem ci_w0 : u_ws RX0 TX0 5 = ([111, 113, 115, 117, 119] : List Nat).filterMap (fun i => lw_tbl[i]?) := by decide +kernel
theorem ci_g0 : (u_ws RX0 TX0 5).all goodWord = true := by decide +kernel
theorem ci_d0 : ∀ k, k < 5 → defaultValue (tyX0 k) = if isR 0 k then .null else .int 0 := by decide +kernel
theorem ci_0 : CI 0 (RX0, TX0, 5) := ⟨fun w hw => by
    have hg := List.all_eq_true.mp ci_g0 w hw
    have hw2 : w ∈ u_ws RX0 TX0 5 := hw
    rw [ci_w0] at hw2
    obtain ⟨i, -, hi⟩ := List.mem_filterMap.mp hw2
    exact TW_of i hi hg, by decide, rfl, ⟨tyX0, tyX0_ok, nmX0, ci_d0⟩, TW_of 91 (by decide +kernel) (by decide +kernel), TW_of 59 (by decide +kernel) (by decide +kernel)⟩
theorem ci_w1 : u_ws RX1 TX1 3 = ([250, 252, 254] : List Nat).filterMap (fun i => lw_tbl[i]?) := by decide +kernel
theorem ci_g1 : (u_ws RX1 TX1 3).all goodWord = true := by decide +kernel
theorem ci_d1 : ∀ k, k < 3 → defaultValue (tyX1 k) = if isR 1 k then .null else .int 0 := by decide +kernel
theorem ci_1 : CI 1 (RX1, TX1, 3) := ⟨fun w hw => by
    have hg := List.all_eq_true.mp ci_g1 w hw
    have hw2 : w ∈ u_ws RX1 TX1 3 := hw
    rw [ci_w1] at hw2
    obtain ⟨i, -, hi⟩ := List.mem_filterMap.mp hw2
    exact TW_of i hi hg, by decide, rfl, ⟨tyX1, tyX1_ok, nmX1, ci_d1⟩, TW_of 239 (by decide +kernel) (by decide +kernel), TW_of 61 (by decide +kernel) (by decide +kernel)⟩
theorem ci_w2 : u_ws RX2 TX2 4 = ([272, 274, 276, 278] : List Nat).filterMap (fun i => lw_tbl[i]?) := by decide +kernel
theorem ci_g2 : (u_ws RX2 TX2 4).all goodWord = true := by decide +kernel
theorem ci_d2 : ∀ k, k < 4 → defaultValue (tyX2 k) = if isR 2 k then .null else .int 0 := by decide +kernel
theorem ci_2 : CI 2 (RX2, TX2, 4) := ⟨fun w hw => by
    have hg := List.all_eq_true.mp ci_g2 w hw
    have hw2 : w ∈ u_ws RX2 TX2 4 := hw
    rw [ci_w2] at hw2
    obtain ⟨i, -, hi⟩ := List.mem_filterMap.mp hw2
    exact TW_of i hi hg, by decide, rfl, ⟨tyX2, tyX2_ok, nmX2, ci_d2⟩, TW_of 257 (by decide +kernel) (by decide +kernel), TW_of 62 (by decide +kernel) (by decide +kernel)⟩
theorem ci_w3 : u_ws RX3 TX3 11 = ([212, 214, 216, 218, 220, 222, 224, 226, 228, 230, 232] : List Nat).filterMap (fun i => lw_tbl[i]?) := by decide +kernel
theorem ci_g3 : (u_ws RX3 TX3 11).all goodWord = true := by decide +kernel
theorem ci_d3 : ∀ k, k < 11 → defaultValue (tyX3 k) = if isR 3 k then .null else .int 0 := by decide +kernel
theorem ci_3 : CI 3 (RX3, TX3, 11) := ⟨fun w hw => by
    have hg := List.all_eq_true.mp ci_g3 w hw
    have hw2 : w ∈ u_ws RX3 TX3 11 := hw
    rw [ci_w3] at hw2
    obtain ⟨i, -, hi⟩ := List.mem_filterMap.mp hw2
    exact TW_of i hi hg, by decide, rfl, ⟨tyX3, tyX3_ok, nmX3, ci_d3⟩, TW_of 194 (by decide +kernel) (by decide +kernel), TW_of 60 (by decide +kernel) (by decide +kernel)⟩
theorem ci_w4 : u_ws RX4 TX4 3 = ([798, 800, 802] : List Nat).filterMap (fun i => lw_tbl[i]?) := by decide +kernel
theorem ci_g4 : (u_ws RX4 TX4 3).all goodWord = true := by decide +kernel
theorem ci_d4 : ∀ k, k < 3 → defaultValue (tyX4 k) = if isR 4 k then .null else .int 0 := by decide +kernel
theorem ci_4 : CI 4 (RX4, TX4, 3) := ⟨fun w hw => by
    have hg := List.all_eq_true.mp ci_g4 w hw
    have hw2 : w ∈ u_ws RX4 TX4 3 := hw
    rw [ci_w4] at hw2
    obtain ⟨i, -, hi⟩ := List.mem_filterMap.mp hw2
    exact TW_of i hi hg, by decide, rfl, ⟨tyX4, tyX4_ok, nmX4, ci_d4⟩, TW_of 786 (by decide +kernel) (by decide +kernel), TW_of 66 (by decide +kernel) (by decide +kernel)⟩
theorem ci_w5 : u_ws RX5 TX5 18 = ([156, 158, 160, 162, 164, 166, 168, 170, 172, 174, 176, 178, 180, 182, 184, 186, 188, 190] : List Nat).filterMap (fun i => lw_tbl[i]?) := by decide +kernel
theorem ci_g5 : (u_ws RX5 TX5 18).all goodWord = true := by decide +kernel
theorem ci_d5 : ∀ k, k < 18 → defaultValue (tyX5 k) = if isR 5 k then .null else .int 0 := by decide +kernel
theorem ci_5 : CI 5 (RX5, TX5, 18) := ⟨fun w hw => by
    have hg := List.all_eq_true.mp ci_g5 w hw
    have hw2 : w ∈ u_ws RX5 TX5 18 := hw
    rw [ci_w5] at hw2
    obtain ⟨i, -, hi⟩ := List.mem_filterMap.mp hw2
    exact TW_of i hi hg, by decide, rfl, ⟨tyX5, tyX5_ok, nmX5, ci_d5⟩, TW_of 82 (by decide +kernel) (by decide +kernel), TW_of 58 (by decide +kernel) (by decide +kernel)⟩
theorem ci_w6 : u_ws RX6 TX6 10 = ([291, 293, 295, 297, 299, 301, 303, 305, 307, 309] : List Nat).filterMap (fun i => lw_tbl[i]?) := by decide +kernel
theorem ci_g6 : (u_ws RX6 TX6 10).all goodWord = true := by decide +kernel
theorem ci_d6 : ∀ k, k < 10 → defaultValue (tyX6 k) = if isR 6 k then .null else .int 0 := by decide +kernel
theorem ci_6 : CI 6 (RX6, TX6, 10) := ⟨fun w hw => by
    have hg := List.all_eq_true.mp ci_g6 w hw
    have hw2 : w ∈ u_ws RX6 TX6 10 := hw
    rw [ci_w6] at hw2
    obtain ⟨i, -, hi⟩ := List.mem_filterMap.mp hw2
    exact TW_of i hi hg, by decide, rfl, ⟨tyX6, tyX6_ok, nmX6, ci_d6⟩, TW_of 74 (by decide +kernel) (by decide +kernel), TW_of 57 (by decide +kernel) (by decide +kernel)⟩
theorem ci_w7 : u_ws RX7 TX7 34 = ([939, 941, 943, 945, 947, 949, 951, 953, 955, 957, 959, 961, 963, 965, 967, 969, 971, 973, 975, 977, 979, 981, 983, 985, 987, 989, 991, 993, 995, 997, 999, 1001, 1003, 1005] : List Nat).filterMap (fun i => lw_tbl[i]?) := by decide +kernel
theorem ci_g7 : (u_ws RX7 TX7 34).all goodWord = true := by decide +kernel
theorem ci_d7 : ∀ k, k < 34 → defaultValue (tyX7 k) = if isR 7 k then .null else .int 0 := by decide +kernel
theorem ci_7 : CI 7 (RX7, TX7, 34) := ⟨fun w hw => by
    have hg := List.all_eq_true.mp ci_g7 w hw
    have hw2 : w ∈ u_ws RX7 TX7 34 := hw
    rw [ci_w7] at hw2
    obtain ⟨i, -, hi⟩ := List.mem_filterMap.mp hw2
    exact TW_of i hi hg, by decide, rfl, ⟨tyX7, tyX7_ok, nmX7, ci_d7⟩, TW_of 900 (by decide +kernel) (by decide +kernel), TW_of 63 (by decide +kernel) (by decide +kernel)⟩
theorem ci_all : ∀ (ci : Nat) (q : vw_C), vwCl[ci]? = some q → CI ci q := by
  intro ci q h
  match ci, h with
  | 0, h => cases h; exact ci_0
  | 1, h => cases h; exact ci_1
  | 2, h => cases h; exact ci_2
  | 3, h => cases h; exact ci_3
  | 4, h => cases h; exact ci_4
  | 5, h => cases h; exact ci_5
  | 6, h => cases h; exact ci_6
  | 7, h => cases h; exact ci_7
  | n + 8, h => simp [vwCl] at h
section MWH
variable {X : Xb} {fr : Fr} {R : Room} {kc sl pc : Nat} {L : List (Option Value)} {st : List Value} {S : Sg} {mi : Mem} {Q : Qt}
theorem mw_getv {idx ci k i z : Nat} (hd : decode fr.2.1 pc = .ok (.getfield idx, 3)) (hf : FL fr.1.cls idx ci k) (hk : Kd S i ci z) (kk : MW X fr R kc sl (pc + 3) L ((if isR ci k then va_rf ((S.2.2 i k).map (X.1 + ·)) else .int (mi i k)) :: st) S mi Q) : MW X fr R kc sl pc L (.ref (X.1 + i) :: st) S mi Q := by
  intro p l e s m args below meth c H locs ls C hS hP hL
  obtain ⟨q, h1, h2, h3, h4⟩ := hf
  obtain ⟨g1, g2, g3, -⟩ := ci_all ci q h1
  have hl := C.2.2.2.2.1 _ h4
  exact va_get (ci := ci) C.1 C.2.1 C.2.2.2.2.1 g1 C.2.2.2.1 C.2.2.2.2.2.2.2.2.2.1 hP.2 i (by rw [ws_at hk.1, cell_obj hk g2]) h1 k h2 hl (fun x hx => by rw [← h3]; exact hx) (flds_at (by rw [g3]; exact h2)) hd (kk p l e s m args below meth c H locs ls C hS hP hL)
theorem mw_geti {idx ci k i z : Nat} (hd : decode fr.2.1 pc = .ok (.getfield idx, 3)) (hf : FL fr.1.cls idx ci k) (hr : isR ci k = false) (hk : Kd S i ci z) (kk : MW X fr R kc sl (pc + 3) L (.int (mi i k) :: st) S mi Q) : MW X fr R kc sl pc L (.ref (X.1 + i) :: st) S mi Q :=
  mw_getv hd hf hk (by rw [hr]; exact kk)
theorem mw_getr {idx ci k i z j : Nat} (hd : decode fr.2.1 pc = .ok (.getfield idx, 3)) (hf : FL fr.1.cls idx ci k) (hr : isR ci k = true) (hk : Kd S i ci z) (hj : S.2.2 i k = some j) (kk : MW X fr R kc sl (pc + 3) L (.ref (X.1 + j) :: st) S mi Q) : MW X fr R kc sl pc L (.ref (X.1 + i) :: st) S mi Q :=
  mw_getv hd hf hk (by rw [hr, hj]; exact kk)
theorem Wp_put {X : Xb} {S S' : Sg} {mi mi' : Mem} {i : Nat} {H H1 : Heap} (hP : Wp X S mi H) (hn : S'.1 = S.1) (ho : ∀ j, j ≠ i → cellE X S' mi' j = cellE X S mi j) (z : H1.size = H.size) (oq : ∀ q : Nat, q ≠ X.1 + i → H1[q]? = H[q]?) (hnew : va_at X.2.1 vwCl (X.1 + i, cellE X S' mi' i) H1) : Wp X S' mi' H1 := by
  refine ⟨by rw [z, hP.1, hn], fun k q hk => ?_⟩
  by_cases hl : k < S.1
  · rw [ws_at (by omega)] at hk
    cases hk
    by_cases hki : k = i
    · subst hki; exact hnew
    · rw [ho k hki]
      exact (hP.2 k _ (ws_at hl)).kept (oq _ (by show X.1 + k ≠ X.1 + i; omega))
  · rw [List.getElem?_eq_none (by simp [wsOf]; omega)] at hk; cases hk
theorem mw_puti {idx ci k i z : Nat} {v : Int32} {ty : FieldType} (hd : decode fr.2.1 pc = .ok (.putfield idx, 3)) (hf : FL fr.1.cls idx ci k) (ht : FT ci k false ty) (hr : isR ci k = false) (hnar : narrow ty (.int v) = .int v) (hfit : fits ty (.int v) = true) (hk : Kd S i ci z) (kk : MW X fr R kc sl (pc + 3) L st S (m_up mi i k v) Q) : MW X fr R kc sl pc L (.int v :: .ref (X.1 + i) :: st) S mi Q := by
  intro p l e s m args below meth c H locs ls C hS hP hL
  obtain ⟨q, h1, h2, h3, h4⟩ := hf
  obtain ⟨g1, g2, g3, ⟨ty0, t1, t2, -⟩, -⟩ := ci_all ci q h1
  have hts := C.2.2.2.2.1
  have hlk := hts _ h4
  have hK := C.2.2.2.2.2.2.2.2.2.1
  have hap := va_apart (own := fr.1.cls) hts g1 ty0 t1 t2 hK h1
  have hat := hP.2 i _ (ws_at hk.1)
  rw [cell_obj hk g2] at hat
  obtain ⟨r, hr1, cell, q1, q2, q3, q4⟩ := hat
  have hrq : r = q := Option.some.inj (hr1.symm.trans h1)
  subst hrq
  obtain ⟨hSl, hfc, kC, hkC, hkind⟩ := hK.1 ci _ h1
  obtain ⟨cf, kf, fi, f, hi, hsl⟩ := hSl k h2
  have hlay := hts _ (g1 _ (u_in_lay h2))
  unfold u_lay at hlay
  rw [if_neg (by rw [(ht r h1).1]; decide)] at hlay
  have hst := (u_facts hfc hkC (u_lays hts g1 h2) hi).1
  have h6 := u_store hfc hkC hkind hlay hi (ht r h1).2 hnar hfit
  refine W.putK C.1 C.2.1 (f := f) ⟨C.2.2.2.1, hlk, ⟨_, _, _, by rw [← h3]; exact hi⟩, hst⟩ (by rw [q2]; exact h6) q1 q3 (by rw [hsl]; exact k2_hasslot (q4 k h2)) rfl rfl hd fun H' e1 e2 e3 => ?_
  rw [hsl] at e1 ⊢
  refine kk p l e s m args below meth c H' _ ls C (hS.put e2 e3 (Nat.le_add_right _ _)) (Wp_put (i := i) hP rfl (fun j hj => cell_eq rfl (m_up_ne hj) rfl) e2 e3 ?_) hL
  rw [cell_obj hk g2, ← flds_set (f := mi i) (f' := m_up mi i k v i) (g := S.2.2 i) (g' := S.2.2 i) (k := k) (v := .int v) (by rw [hr]; simp [m_up]) (fun j hj => ⟨by simp [m_up, hj], rfl⟩)]
  exact ⟨_, h1, t_OB.to (V := updV (vp_V (flds X.1 ci (mi i) (S.2.2 i))) k (.int v)) ⟨_, e1, q2, q3, t_set q4 hap h2 (.int v)⟩ (fun j _ => vp_updV_set (by rw [flds_len, g3]; exact h2) (.int v) j)⟩
/-- a final field, in its own constructor: an int or a reference -/
theorem mw_putF {idx ci k i z : Nat} {v : Value} {ty : FieldType} {mi' : Mem} {mr' : Rfm} (hd : decode fr.2.1 pc = .ok (.putfield idx, 3)) (hf : FL fr.1.cls idx ci k) (ht : FT ci k true ty) (hin : fr.1.name = "<init>") (hown : ∀ q : vw_C, vwCl[ci]? = some q → q.1 = fr.1.cls) (hnar : narrow ty v = v) (hfit : fits ty v = true) (hk : Kd S i ci z)
    (hv : (if isR ci k then va_rf ((mr' i k).map (X.1 + ·)) else .int (mi' i k)) = v) (hm : ∀ a b, ¬ (a = i ∧ b = k) → mi' a b = mi a b ∧ mr' a b = S.2.2 a b) (kk : MW X fr R kc sl (pc + 3) L st (S.1, S.2.1, mr') mi' Q) : MW X fr R kc sl pc L (v :: .ref (X.1 + i) :: st) S mi Q := by
  intro p l e s m args below meth c H locs ls C hS hP hL
  obtain ⟨q, h1, h2, h3, h4⟩ := hf
  obtain ⟨g1, g2, g3, ⟨ty0, t1, t2, -⟩, -⟩ := ci_all ci q h1
  have hts := C.2.2.2.2.1
  have hlk := hts _ h4
  have hK := C.2.2.2.2.2.2.2.2.2.1
  have hap := va_apart (own := fr.1.cls) hts g1 ty0 t1 t2 hK h1
  have hat := hP.2 i _ (ws_at hk.1)
  rw [cell_obj hk g2] at hat
  obtain ⟨r, hr1, cell, q1, q2, q3, q4⟩ := hat
  have hrq : r = q := Option.some.inj (hr1.symm.trans h1)
  subst hrq
  obtain ⟨hSl, hfc, kC, hkC, hkind⟩ := hK.1 ci _ h1
  obtain ⟨cf, kf, fi, f, hi, hsl⟩ := hSl k h2
  have hlay := hts _ (g1 _ (u_in_lay h2))
  unfold u_lay at hlay
  rw [if_pos (ht r h1).1] at hlay
  have hst := (u_facts hfc hkC (u_lays hts g1 h2) hi).1
  have hcf : m.cls = cf := by
    obtain ⟨_, _, c', _, _, _, -, -, hf', -, -, -, hown2, -⟩ := Cond.laysFinal_spec hlay
    have e1 : c' = cf := by have := hi.symm.trans hf'; simp at this; exact this.1.symm
    rw [h3, hown r h1] at hown2
    rw [← e1]; exact Option.some.inj (C.2.2.2.1.symm.trans hown2)
  have h6 := u_fits hfc hkC hkind (Or.inr hlay) hi (ht r h1).2 hnar hfit
  refine W.putFinK C.1 C.2.1 C.2.2.2.1 hlk (by rw [← h3]; exact hi) hst hcf (C.2.2.2.2.2.2.2.1.trans hin) (by rw [q2]; exact h6) q1 q3 (by rw [hsl]; exact k2_hasslot (q4 k h2)) rfl rfl hd fun H' e1 e2 e3 => ?_
  rw [hsl] at e1 ⊢
  refine kk p l e s m args below meth c H' _ ls C (hS.put e2 e3 (Nat.le_add_right _ _)) (Wp_put (i := i) hP rfl (fun j hj => cell_eq rfl (funext fun b => (hm j b (fun h => hj h.1)).1) (funext fun b => (hm j b (fun h => hj h.1)).2)) e2 e3 ?_) hL
  rw [cell_obj (S := (S.1, S.2.1, mr')) (z := z) hk g2, ← flds_set (f := mi i) (f' := mi' i) (g := S.2.2 i) (g' := mr' i) (k := k) (v := v) hv (fun j hj => hm i j (fun h => hj h.2))]
  exact ⟨_, h1, t_OB.to (V := updV (vp_V (flds X.1 ci (mi i) (S.2.2 i))) k v) ⟨_, e1, q2, q3, t_set q4 hap h2 v⟩ (fun j _ => vp_updV_set (by rw [flds_len, g3]; exact h2) v j)⟩
theorem ty_at (dA : Nat → ClassId) : (tysOf dA)[0]? = some (dA 0, .int) ∧ (tysOf dA)[1]? = some (dA 1, .boolean) ∧ (tysOf dA)[2]? = some (dA 2, .char) := ⟨rfl, rfl, rfl⟩
theorem mw_iald {i z : Nat} {j : Int32} (hd : decode fr.2.1 pc = .ok (.iaload, 1)) (hk : Kd S i 8 z) (hin : vp_in j z) (kk : MW X fr R kc sl (pc + 1) L (.int (mi i j.toNatClampNeg) :: st) S mi Q) : MW X fr R kc sl pc L (.int j :: .ref (X.1 + i) :: st) S mi Q :=
  fun p l e s m args below meth c H locs ls C hS hP hL => va_iald C.1 C.2.1 C.2.2.2.2.2.2.2.2.2.1 hP.2 i 0 (by rw [ws_at hk.1, cell_int hk (by decide) (by decide)]) rfl hin hd (kk p l e s m args below meth c H locs ls C hS hP hL)
theorem mw_zald {i z : Nat} {j : Int32} (hd : decode fr.2.1 pc = .ok (.baload, 1)) (hk : Kd S i 9 z) (hin : vp_in j z) (kk : MW X fr R kc sl (pc + 1) L (.int (mi i j.toNatClampNeg) :: st) S mi Q) : MW X fr R kc sl pc L (.int j :: .ref (X.1 + i) :: st) S mi Q :=
  fun p l e s m args below meth c H locs ls C hS hP hL => va_zald C.1 C.2.1 C.2.2.2.2.2.2.2.2.2.1 hP.2 i 1 (by rw [ws_at hk.1, cell_int hk (by decide) (by decide)]) rfl hin hd (kk p l e s m args below meth c H locs ls C hS hP hL)
theorem mw_cald {i z : Nat} {j : Int32} (hd : decode fr.2.1 pc = .ok (.caload, 1)) (hk : Kd S i 10 z) (hin : vp_in j z) (kk : MW X fr R kc sl (pc + 1) L (.int (mi i j.toNatClampNeg) :: st) S mi Q) : MW X fr R kc sl pc L (.int j :: .ref (X.1 + i) :: st) S mi Q :=
  fun p l e s m args below meth c H locs ls C hS hP hL => va_cald C.1 C.2.1 C.2.2.2.2.2.2.2.2.2.1 hP.2 i 2 (by rw [ws_at hk.1, cell_int hk (by decide) (by decide)]) rfl hin hd (kk p l e s m args below meth c H locs ls C hS hP hL)
theorem mw_aldv {i c0 z : Nat} {j : Int32} (hd : decode fr.2.1 pc = .ok (.aaload, 1)) (hk : Kd S i c0 z) (hc0 : c0 = 11 ∨ c0 = 12 ∨ c0 = 13 ∨ c0 = 14) (hin : vp_in j z) (kk : MW X fr R kc sl (pc + 1) L (va_rf ((S.2.2 i j.toNatClampNeg).map (X.1 + ·)) :: st) S mi Q) : MW X fr R kc sl pc L (.int j :: .ref (X.1 + i) :: st) S mi Q := by
  intro p l e s m args below meth c H locs ls C hS hP hL
  have hg := kk p l e s m args below meth c H locs ls C hS hP hL
  rcases hc0 with rfl | rfl | rfl | rfl
  · exact va_aldq C.1 C.2.1 C.2.2.2.2.2.2.2.2.2.1 hP.2 i 3 (by rw [ws_at hk.1, cell_ref hk (by decide)]) rfl hin hd hg
  · exact va_aldq C.1 C.2.1 C.2.2.2.2.2.2.2.2.2.1 hP.2 i 4 (by rw [ws_at hk.1, cell_ref hk (by decide)]) rfl hin hd hg
  · exact va_aldq C.1 C.2.1 C.2.2.2.2.2.2.2.2.2.1 hP.2 i 5 (by rw [ws_at hk.1, cell_ref hk (by decide)]) rfl hin hd hg
  · exact va_aldq C.1 C.2.1 C.2.2.2.2.2.2.2.2.2.1 hP.2 i 6 (by rw [ws_at hk.1, cell_ref hk (by decide)]) rfl hin hd hg
theorem mw_aldr {i c0 z a : Nat} {j : Int32} (hd : decode fr.2.1 pc = .ok (.aaload, 1)) (hk : Kd S i c0 z) (hc0 : c0 = 11 ∨ c0 = 12 ∨ c0 = 13 ∨ c0 = 14) (hin : vp_in j z) (ha : S.2.2 i j.toNatClampNeg = some a) (kk : MW X fr R kc sl (pc + 1) L (.ref (X.1 + a) :: st) S mi Q) : MW X fr R kc sl pc L (.int j :: .ref (X.1 + i) :: st) S mi Q :=
  mw_aldv hd hk hc0 hin (by rw [ha]; exact kk)
theorem mw_alen {i z : Nat} {v : Int32} (hd : decode fr.2.1 pc = .ok (.arraylength, 1)) (hk : Kd S i 8 z) (hv : Int32.ofNat z = v) (kk : MW X fr R kc sl (pc + 1) L (.int v :: st) S mi Q) : MW X fr R kc sl pc L (.ref (X.1 + i) :: st) S mi Q :=
  fun p l e s m args below meth c H locs ls C hS hP hL => va_alen C.1 C.2.1 C.2.2.2.2.2.2.2.2.2.1 hP.2 i 0 (by rw [ws_at hk.1, cell_int hk (by decide) (by decide)]) rfl hv hd (kk p l e s m args below meth c H locs ls C hS hP hL)
/-- the script, in the law alone -/
theorem mw_sld {j : Int32} (hd : decode fr.2.1 pc = .ok (.iaload, 1)) (hin : vp_in j X.2.2.2.2.2.2.2.1) (kk : MW X fr R kc sl (pc + 1) L (.int (X.2.2.2.2.2.2.2.2 j.toNatClampNeg) :: st) S mi Q) : MW X fr R kc sl pc L (.int j :: .ref X.2.2.2.2.2.2.1 :: st) S mi Q :=
  fun p l e s m args below meth c H locs ls C hS hP hL => va_sld C.1 C.2.1 C.2.2.2.2.2.2.2.2.2.2.2.2.2.2.2.2.2.2.1 (Nat.lt_of_lt_of_le C.2.2.2.2.2.2.2.2.2.2.2.2.2.2.2.2.2.2.2 C.2.2.2.2.2.2.2.2.1) (Nat.not_le.mpr C.2.2.2.2.2.2.2.2.2.2.2.2.2.2.2.2.2.2.2) hS hin hd (kk p l e s m args below meth c H locs ls C hS hP hL)
theorem mw_slen (hd : decode fr.2.1 pc = .ok (.arraylength, 1)) (kk : MW X fr R kc sl (pc + 1) L (.int (Int32.ofNat X.2.2.2.2.2.2.2.1) :: st) S mi Q) : MW X fr R kc sl pc L (.ref X.2.2.2.2.2.2.1 :: st) S mi Q :=
  fun p l e s m args below meth c H locs ls C hS hP hL => va_slen C.1 C.2.1 C.2.2.2.2.2.2.2.2.2.2.2.2.2.2.2.2.2.2.1 (Nat.lt_of_lt_of_le C.2.2.2.2.2.2.2.2.2.2.2.2.2.2.2.2.2.2.2 C.2.2.2.2.2.2.2.2.1) (Nat.not_le.mpr C.2.2.2.2.2.2.2.2.2.2.2.2.2.2.2.2.2.2.2) hS hd (kk p l e s m args below meth c H locs ls C hS hP hL)
end MWH
end
section
/-! writes to rows, new cells, calls -/
def nwS (S : Sg) (c z : Nat) : Sg := (S.1 + 1, fun j => if j = S.1 then (c, z) else S.2.1 j, fun a k => if a = S.1 then none else S.2.2 a k)
def nwM (S : Sg) (mi : Mem) : Mem := fun a k => if a = S.1 then 0 else mi a k
section MWM
variable {X : Xb} {fr : Fr} {R : Room} {kc sl pc : Nat} {L : List (Option Value)} {st : List Value} {S : Sg} {mi : Mem} {Q : Qt}
theorem cell_upd {X : Xb} {S : Sg} {mi : Mem} {i c z j : Nat} {v : Int32} {H1 : Heap} (hk : Kd S i c z) (hc : ¬ c < 8) (hc2 : c < 11) (e : H1[X.1 + i]? = some ((vp_cell (X.2.2.1 (c - 8)) (z, .inl (mi i))).setSlot j (.int v))) : va_at X.2.1 vwCl (X.1 + i, cellE X S (m_up mi i j v) i) H1 := by
  rw [cell_int hk hc hc2]
  show H1[X.1 + i]? = some (vp_cell _ _)
  rw [e, vp_cell_i, vp_cell_i, arrV_store]
  congr 2
  funext q
  by_cases hq : q = j
  · subst hq; simp [updV, m_up]
  · simp [updV, m_up, hq]
theorem mw_iast {i z : Nat} {j v : Int32} (hd : decode fr.2.1 pc = .ok (.iastore, 1)) (hk : Kd S i 8 z) (hin : vp_in j z) (kk : MW X fr R kc sl (pc + 1) L st S (m_up mi i j.toNatClampNeg v) Q) : MW X fr R kc sl pc L (.int v :: .int j :: .ref (X.1 + i) :: st) S mi Q := by
  intro p l e s m args below meth c H locs ls C hS hP hL
  have hat := hP.2 i _ (ws_at hk.1)
  rw [cell_int hk (by decide) (by decide)] at hat
  have hK := C.2.2.2.2.2.2.2.2.2.1
  refine W.iast C.1 C.2.1 hat ((hK.2 0 _ rfl).1 z (fun j => .int (mi i j))) (fun q => by cases q) (by show ¬ (j < 0 ∨ (arrV _ _ _).slots.size ≤ _); rw [arrV_size]; exact hin) rfl rfl hd fun H1 e1 e2 e3 => ?_
  exact kk p l e s m args below meth c H1 _ ls C (hS.put e2 e3 (Nat.le_add_right _ _)) (Wp_put (i := i) hP rfl (fun j hj => cell_eq rfl (m_up_ne hj) rfl) e2 e3 (cell_upd hk (by decide) (by decide) e1)) hL
theorem mw_zast {i z : Nat} {j v : Int32} (hd : decode fr.2.1 pc = .ok (.bastore, 1)) (hk : Kd S i 9 z) (hin : vp_in j z) (hv : narrow .boolean (.int v) = .int v) (kk : MW X fr R kc sl (pc + 1) L st S (m_up mi i j.toNatClampNeg v) Q) : MW X fr R kc sl pc L (.int v :: .int j :: .ref (X.1 + i) :: st) S mi Q := by
  intro p l e s m args below meth c H locs ls C hS hP hL
  have hat := hP.2 i _ (ws_at hk.1)
  rw [cell_int hk (by decide) (by decide)] at hat
  have hK := C.2.2.2.2.2.2.2.2.2.1
  refine W.zast C.1 C.2.1 hat ((hK.2 1 _ rfl).1 z (fun j => .int (mi i j))) (fun q => by cases q) (by show ¬ (j < 0 ∨ (arrV _ _ _).slots.size ≤ _); rw [arrV_size]; exact hin) rfl rfl hd fun H1 e1 e2 e3 => ?_
  rw [hv] at e1
  exact kk p l e s m args below meth c H1 _ ls C (hS.put e2 e3 (Nat.le_add_right _ _)) (Wp_put (i := i) hP rfl (fun j hj => cell_eq rfl (m_up_ne hj) rfl) e2 e3 (cell_upd hk (by decide) (by decide) e1)) hL
theorem mw_cast {i z : Nat} {j v : Int32} (hd : decode fr.2.1 pc = .ok (.castore, 1)) (hk : Kd S i 10 z) (hin : vp_in j z) (hv : narrow .char (.int v) = .int v) (kk : MW X fr R kc sl (pc + 1) L st S (m_up mi i j.toNatClampNeg v) Q) : MW X fr R kc sl pc L (.int v :: .int j :: .ref (X.1 + i) :: st) S mi Q := by
  intro p l e s m args below meth c H locs ls C hS hP hL
  have hat := hP.2 i _ (ws_at hk.1)
  rw [cell_int hk (by decide) (by decide)] at hat
  have hK := C.2.2.2.2.2.2.2.2.2.1
  refine W.cast C.1 C.2.1 hat ((hK.2 2 _ rfl).1 z (fun j => .int (mi i j))) (fun q => by cases q) (by show ¬ (j < 0 ∨ (arrV _ _ _).slots.size ≤ _); rw [arrV_size]; exact hin) rfl rfl hd fun H1 e1 e2 e3 => ?_
  rw [hv] at e1
  exact kk p l e s m args below meth c H1 _ ls C (hS.put e2 e3 (Nat.le_add_right _ _)) (Wp_put (i := i) hP rfl (fun j hj => cell_eq rfl (m_up_ne hj) rfl) e2 e3 (cell_upd hk (by decide) (by decide) e1)) hL
/-- a reference is put into a row of its class -/
def aTy (c0 ci t0 : Nat) : Prop := (c0 = 11 ∧ ci = 0 ∧ t0 = 3) ∨ (c0 = 12 ∧ ci = 1 ∧ t0 = 4) ∨ (c0 = 13 ∧ ci = 2 ∧ t0 = 5) ∨ (c0 = 14 ∧ ci = 4 ∧ t0 = 6)
theorem aTy_ok {c0 ci t0 : Nat} (h : aTy c0 ci t0) (dA : Nat → ClassId) : ∃ r : vw_C, vwCl[ci]? = some r ∧ (tysOf dA)[t0]? = some (dA (c0 - 8), .object r.1) ∧ ¬ c0 < 11 ∧ ci < 8 := by
  rcases h with ⟨rfl, rfl, rfl⟩ | ⟨rfl, rfl, rfl⟩ | ⟨rfl, rfl, rfl⟩ | ⟨rfl, rfl, rfl⟩
  · exact ⟨_, rfl, rfl, by decide, by decide⟩
  · exact ⟨_, rfl, rfl, by decide, by decide⟩
  · exact ⟨_, rfl, rfl, by decide, by decide⟩
  · exact ⟨_, rfl, rfl, by decide, by decide⟩
theorem mw_aast {i c0 z a ci z2 t0 : Nat} {j : Int32} (hd : decode fr.2.1 pc = .ok (.aastore, 1)) (hk : Kd S i c0 z) (ha : Kd S a ci z2) (hty : aTy c0 ci t0) (hin : vp_in j z) (kk : MW X fr R kc sl (pc + 1) L st (S.1, S.2.1, r_up S.2.2 i j.toNatClampNeg (some a)) mi Q) : MW X fr R kc sl pc L (.ref (X.1 + a) :: .int j :: .ref (X.1 + i) :: st) S mi Q := by
  intro p l e s m args below meth c H locs ls C hS hP hL
  obtain ⟨r, hr1, hr2, hr3, hr4⟩ := aTy_ok hty X.2.2.1
  have hat := hP.2 i _ (ws_at hk.1)
  rw [cell_ref hk hr3] at hat
  have hav := hP.2 a _ (ws_at ha.1)
  rw [cell_obj ha hr4] at hav
  obtain ⟨r', hr', cellV, g1, g2, g3, -⟩ := hav
  have hK := C.2.2.2.2.2.2.2.2.2.1
  have hcls := (hK.1 ci r hr1).2
  obtain ⟨kA, comp, k1, k2, k3, -⟩ := (hK.2 t0 _ hr2).2
  have hcomp : comp = X.2.1.1 ci := Option.some.inj (k3.symm.trans hcls.1)
  subst hcomp
  obtain ⟨kC, hkC, -⟩ := hcls.2
  have hlt : j.toNatClampNeg < z := Nat.not_le.mp fun q => hin (Or.inr q)
  have h0 : ¬ j < 0 := fun q => hin (Or.inl q)
  refine W.aast C.1 C.2.1 hat (fun q h => by cases h) (fun h => by cases h) k1 k2 rfl hkC ⟨h0, by show _ < (arrV _ _ _).slots.size; rw [arrV_size]; exact hlt⟩ g1 (fun q h => by rw [g3] at h; cases h) (by rw [g2]; exact hkC) (by rw [g2]; exact va_assign hcls) rfl rfl hd fun H1 e1 e2 e3 => ?_
  refine kk p l e s m args below meth c H1 _ ls C (hS.put e2 e3 (Nat.le_add_right _ _)) (Wp_put (i := i) hP rfl (fun j hj => cell_eq rfl rfl (r_up_ne hj)) e2 e3 ?_) hL
  rw [cell_ref (S := (S.1, S.2.1, r_up S.2.2 i j.toNatClampNeg (some a))) (z := z) hk hr3]
  show H1[X.1 + i]? = some (vp_cell _ _)
  rw [e1, vp_cell_q, vp_cell_q, arrV_store]
  congr 2
  funext q
  by_cases hq : q = j.toNatClampNeg
  · subst hq; simp [updV, r_up, va_rf]
  · simp [updV, r_up, hq]
theorem Wp_new {X : Xb} {S : Sg} {mi : Mem} {c z : Nat} {H H1 : Heap} (hP : Wp X S mi H) (z1 : H1.size = H.size + 1) (o1 : ∀ q : Nat, q < H.size → H1[q]? = H[q]?) (hnew : va_at X.2.1 vwCl (X.1 + S.1, cellE X (nwS S c z) (nwM S mi) S.1) H1) : Wp X (nwS S c z) (nwM S mi) H1 := by
  refine ⟨by rw [z1, hP.1]; rfl, fun k q hk => ?_⟩
  by_cases hl : k < S.1 + 1
  · rw [ws_at hl] at hk
    cases hk
    by_cases hki : k = S.1
    · subst hki; exact hnew
    · have hks : k < S.1 := by omega
      rw [cell_eq (S := S) (mi := mi) (by simp [nwS, hki]) (by funext b; simp [nwM, hki]) (by funext b; simp [nwS, hki])]
      exact (hP.2 k _ (ws_at hks)).kept (o1 _ (by show X.1 + k < H.size; rw [hP.1]; omega))
  · rw [List.getElem?_eq_none (by simp [wsOf, nwS]; omega)] at hk; cases hk
theorem va_S_new {A : Nat → Prop} {H0 H H1 : Heap} {locs : List Loc} (hS : va_S A H0 H locs) (z1 : H1.size = H.size + 1) (o1 : ∀ q : Nat, q < H.size → H1[q]? = H[q]?) : va_S A H0 H1 locs :=
  ⟨Nat.le_trans hS.1 (by omega), fun x h1 h2 => (o1 x (Nat.lt_of_lt_of_le h1 hS.1)).trans (hS.2.1 x h1 h2), hS.2.2⟩
theorem mw_new {idx ci : Nat} {q : vw_C} (hd : decode fr.2.1 pc = .ok (.new idx, 3)) (hq : vwCl[ci]? = some q) (hcl : Cond.classLink fr.1.cls idx q.1 ∈ TW) (hc : kc + 1 ≤ R.cells) (hs : sl + nF ci ≤ R.slots) (kk : MW X fr R (kc + 1) (sl + nF ci) (pc + 3) L (.ref (X.1 + S.1) :: st) (nwS S ci 0) (nwM S mi) Q) : MW X fr R kc sl pc L st S mi Q := by
  intro p l e s m args below meth c H locs ls C hS hP hL
  obtain ⟨g1, g2, g3, ⟨ty0, t1, t2, t3⟩, g5, g6⟩ := ci_all ci q hq
  have hts := C.2.2.2.2.1
  have hKn := C.2.2.2.2.2.2.2.2.2.1.1 ci _ hq
  rw [g3] at hs kk
  refine W.newcK C.1 C.2.1 C.2.2.2.1 (hts _ hcl) (hts _ g5) (hts _ g6) rfl hd hc hs hKn.2.1 rfl fun H1 kC hkC e1 z1 o1 => ?_
  have hsz : H.size = X.1 + S.1 := hP.1
  refine (show ∀ h, h = H.size → W p l e R s m args below meth c H1 locs (kc + 1) (sl + q.2.2) (Q below args s) (F0 m (pc + 3) ls (.ref h :: st)) from fun h hh => ?_) H.size rfl
  rw [hh, hsz]
  refine kk p l e s m args below meth c H1 locs ls C (va_S_new hS z1 o1) (Wp_new hP z1 o1 ?_) hL
  rw [cell_obj (c := ci) (z := 0) ⟨by simp [nwS], by simp [nwS]⟩ g2]
  refine ⟨q, hq, (show t_OB (X.1 + S.1) _ _ _ H1 _ from ?_)⟩
  rw [← hsz]
  refine (u_born ty0 hts g1 hKn hkC e1 t1).to (fun j hj => ?_)
  rw [t3 j hj]
  unfold vp_V
  rw [List.getD_eq_getElem?_getD, flds_at (by rw [g3]; exact hj)]
  simp only [nwM, nwS, if_true, Option.map_none, Option.getD_some]
  rfl
theorem mw_newi {n : Int32} {N : Nat} (hd : decode fr.2.1 pc = .ok (.newarray .int, 2)) (hw : Cond.arrayClass .int ∈ TW) (hn : ¬ n < 0) (hN : n.toNatClampNeg = N) (hb : N * 4 ≤ 536870912) (hc : kc + 1 ≤ R.cells) (hs : sl + N ≤ R.slots) (kk : MW X fr R (kc + 1) (sl + N) (pc + 2) L (.ref (X.1 + S.1) :: st) (nwS S 8 N) (nwM S mi) Q) : MW X fr R kc sl pc L (.int n :: st) S mi Q := by
  intro p l e s m args below meth c H locs ls C hS hP hL
  refine va_newaK (atype := .int) C.1 C.2.1 (C.2.2.2.2.1 _ hw) rfl hd rfl hn hN hb hc hs hP.1 fun H1 cA e1 z1 o1 hAr hNm => ?_
  have hcA : cA = X.2.2.1 0 := Option.some.inj (hNm.symm.trans (C.2.2.2.2.2.2.2.2.2.1.2 0 _ rfl).2)
  subst hcA
  have z2 : H1.size = H.size + 1 := by rw [z1, hP.1]
  have o2 : ∀ q : Nat, q < H.size → H1[q]? = H[q]? := fun q h => o1 q (by rw [← hP.1]; exact h)
  refine kk p l e s m args below meth c H1 locs ls C (va_S_new hS z2 o2) (Wp_new hP z2 o2 ?_) hL
  rw [cell_int (c := 8) (z := N) ⟨by simp [nwS], by simp [nwS]⟩ (by decide) (by decide)]
  show H1[X.1 + S.1]? = some (vp_cell _ _)
  rw [e1, vp_cell_i]
  congr 2
  funext q
  simp [nwM, defaultValue]
  rfl
theorem mw_newz {n : Int32} {N : Nat} (hd : decode fr.2.1 pc = .ok (.newarray .boolean, 2)) (hw : Cond.arrayClass .boolean ∈ TW) (hn : ¬ n < 0) (hN : n.toNatClampNeg = N) (hb : N * componentBytes .boolean ≤ 536870912) (hc : kc + 1 ≤ R.cells) (hs : sl + N ≤ R.slots) (kk : MW X fr R (kc + 1) (sl + N) (pc + 2) L (.ref (X.1 + S.1) :: st) (nwS S 9 N) (nwM S mi) Q) : MW X fr R kc sl pc L (.int n :: st) S mi Q := by
  intro p l e s m args below meth c H locs ls C hS hP hL
  refine va_newaK (atype := .boolean) C.1 C.2.1 (C.2.2.2.2.1 _ hw) rfl hd rfl hn hN hb hc hs hP.1 fun H1 cA e1 z1 o1 hAr hNm => ?_
  have hcA : cA = X.2.2.1 1 := Option.some.inj (hNm.symm.trans (C.2.2.2.2.2.2.2.2.2.1.2 1 _ rfl).2)
  subst hcA
  have z2 : H1.size = H.size + 1 := by rw [z1, hP.1]
  have o2 : ∀ q : Nat, q < H.size → H1[q]? = H[q]? := fun q h => o1 q (by rw [← hP.1]; exact h)
  refine kk p l e s m args below meth c H1 locs ls C (va_S_new hS z2 o2) (Wp_new hP z2 o2 ?_) hL
  rw [cell_int (c := 9) (z := N) ⟨by simp [nwS], by simp [nwS]⟩ (by decide) (by decide)]
  show H1[X.1 + S.1]? = some (vp_cell _ _)
  rw [e1, vp_cell_i]
  congr 2
  funext q
  simp [nwM, defaultValue]
  rfl
theorem mw_newc {n : Int32} {N : Nat} (hd : decode fr.2.1 pc = .ok (.newarray .char, 2)) (hw : Cond.arrayClass .char ∈ TW) (hn : ¬ n < 0) (hN : n.toNatClampNeg = N) (hb : N * componentBytes .char ≤ 536870912) (hc : kc + 1 ≤ R.cells) (hs : sl + N ≤ R.slots) (kk : MW X fr R (kc + 1) (sl + N) (pc + 2) L (.ref (X.1 + S.1) :: st) (nwS S 10 N) (nwM S mi) Q) : MW X fr R kc sl pc L (.int n :: st) S mi Q := by
  intro p l e s m args below meth c H locs ls C hS hP hL
  refine va_newaK (atype := .char) C.1 C.2.1 (C.2.2.2.2.1 _ hw) rfl hd rfl hn hN hb hc hs hP.1 fun H1 cA e1 z1 o1 hAr hNm => ?_
  have hcA : cA = X.2.2.1 2 := Option.some.inj (hNm.symm.trans (C.2.2.2.2.2.2.2.2.2.1.2 2 _ rfl).2)
  subst hcA
  have z2 : H1.size = H.size + 1 := by rw [z1, hP.1]
  have o2 : ∀ q : Nat, q < H.size → H1[q]? = H[q]? := fun q h => o1 q (by rw [← hP.1]; exact h)
  refine kk p l e s m args below meth c H1 locs ls C (va_S_new hS z2 o2) (Wp_new hP z2 o2 ?_) hL
  rw [cell_int (c := 10) (z := N) ⟨by simp [nwS], by simp [nwS]⟩ (by decide) (by decide)]
  show H1[X.1 + S.1]? = some (vp_cell _ _)
  rw [e1, vp_cell_i]
  congr 2
  funext q
  simp [nwM, defaultValue]
  rfl
end MWM
end
section
theorem math_max : Cond.static Lib.Math.max.name ∈ TW ∧ Cond.code Lib.Math.max.name Lib.Math.max.code 2 (some .int) ∈ TW := ⟨TW_of 393 (by decide +kernel) (by decide +kernel), TW_of 394 (by decide +kernel) (by decide +kernel)⟩
theorem math_min : Cond.static Lib.Math.min.name ∈ TW ∧ Cond.code Lib.Math.min.name Lib.Math.min.code 2 (some .int) ∈ TW := ⟨TW_of 345 (by decide +kernel) (by decide +kernel), TW_of 346 (by decide +kernel) (by decide +kernel)⟩
theorem math_abs : Cond.static Lib.Math.abs.name ∈ TW ∧ Cond.code Lib.Math.abs.name Lib.Math.abs.code 1 (some .int) ∈ TW := ⟨TW_of 581 (by decide +kernel) (by decide +kernel), TW_of 582 (by decide +kernel) (by decide +kernel)⟩
theorem math_ini : Cond.initialized "java/lang/Math" ∈ TW := TW_of 64 (by decide +kernel) (by decide +kernel)
theorem obj_ok : Cond.instanceMethod Lib.objectInit ∈ TW ∧ Cond.code Lib.objectInit ⟨#[0xb1]⟩ 1 none ∈ TW := ⟨TW_of 79 (by decide +kernel) (by decide +kernel), TW_of 80 (by decide +kernel) (by decide +kernel)⟩
theorem acopy_ok : Cond.native arraycopyName ∈ TW ∧ Cond.static arraycopyName ∈ TW ∧ Cond.initialized "java/lang/System" ∈ TW := ⟨TW_of 524 (by decide +kernel) (by decide +kernel), TW_of 523 (by decide +kernel) (by decide +kernel), TW_of 67 (by decide +kernel) (by decide +kernel)⟩
theorem arr_int : Cond.arrayClass .int ∈ TW := TW_of 122 (by decide +kernel) (by decide +kernel)
theorem arr_boolean : Cond.arrayClass .boolean ∈ TW := TW_of 1009 (by decide +kernel) (by decide +kernel)
theorem arr_char : Cond.arrayClass .char ∈ TW := TW_of 1008 (by decide +kernel) (by decide +kernel)
def MF (g : Fr) (n : Nat) : Prop := Cond.code g.1 g.2.1 g.2.2.1 g.2.2.2 ∈ TW ∧ Cond.initialized g.1.cls ∈ TW ∧ (g.1.cls ≠ "java/lang/invoke/MethodHandle" ∧ g.1.cls ≠ "java/lang/invoke/VarHandle" ∧ (parseMethodDescriptor g.1.desc).map (fun d => d.parameters.length) = some n) ∧ g.2.2.1 ≤ 21
def MFV (g : Fr) (n ci : Nat) : Prop := MF g n ∧ Cond.instanceMethod g.1 ∈ TW ∧ Cond.selects g.1.cls g.1 g.1 ∈ TW ∧ ∃ q : vw_C, vwCl[ci]? = some q ∧ q.1 = g.1.cls
def MFS (g : Fr) (n : Nat) : Prop := MF g n ∧ Cond.static g.1 ∈ TW
def MFI (g : Fr) (n : Nat) : Prop := MF g n ∧ Cond.instanceMethod g.1 ∈ TW ∧ g.1.name = "<init>" ∧ g.2.2.2 = none
theorem goodTW {g : Fr} (h : Cond.code g.1 g.2.1 g.2.2.1 g.2.2.2 ∈ TW) : GoodIn TW (.code g.1 g.2.1 g.2.2.1 g.2.2.2 :: TW) := by
  have h1 : ∀ w ∈ TW, w ∈ TW ∧ ((w.onTables && w.keeps) = true ∨ ∃ ty, w = .arrayClass ty) := fun w hw => ⟨hw, good_of_word (List.mem_filter.mp hw).2⟩
  intro w hw
  rcases List.mem_cons.mp hw with rfl | hw
  · exact h1 _ h
  · exact h1 w hw
theorem Pre3_blind {X : Xb} {S : Sg} {mi : Mem} {av : List Value} : FrameBlind (va_Pc av (Pre3 X S mi)) := by
  intro a U g mk h
  obtain ⟨h1, h2, h3⟩ := h
  refine ⟨h1, h2, ?_⟩
  exact h3.go (U := U.calling g mk a) (by rw [h2.1]; exact Nat.le_add_right _ _) (State.WarmedH.refl U) (fun q _ _ => rfl)
section MWC
variable {X : Xb} {fr : Fr} {R : Room} {kc sl pc : Nat} {L : List (Option Value)} {st st0 : List Value} {S : Sg} {mi : Mem} {Q : Qt}
theorem Pre3_at {p : Program} {s : State} {m : MethodId} {args : Array Value} {meth : Method} {c : Code} {H : Heap} {locs : List Loc} (C : Cx fr X p s m args meth c) (hS : va_S (bA X) s.heap H locs) (hP : Wp X S mi H) {av : List Value} : ∀ U : State, U.heap = H → s.WarmedH U.vm → va_Pc av (Pre3 X S mi) av.toArray U := by
  intro U hU hW
  subst hU
  exact ⟨rfl, hP, C.2.2.2.2.2.2.2.2.2.go C.2.2.2.2.2.2.2.2.1 hW hS.2.1⟩
theorem W_call {p : Program} {l : Launch} {e : Env} {s : State} {m : MethodId} {args : Array Value} {below : List Frame} {meth : Method} {c : Code} {H : Heap} {locs : List Loc} {ls : Array Slot} {mc ms : Nat} {P : Pt3} {av : Array Value} (C : Cx fr X p s m args meth c) (hS : va_S (bA X) s.heap H locs) (hL : Lv ls fr.2.2.1 L)
    (run : va_Run p l e R s m args below meth c H locs kc sl mc ms (F0 m pc ls st0) st (Qc3 X P av) (bA X)) (kk : ∀ r S' mi', P r S' mi' → MW X fr R (kc + mc) (sl + ms) (pc + 3) L (r.toList ++ st) S' mi' Q) : W p l e R s m args below meth c H locs kc sl (Q below args s) (F0 m pc ls st0) := by
  intro T hT Y
  obtain ⟨v, st₀, t, T', Lc, h0, X', hLc, e1, e2, ⟨⟨r, S', mi', hv, hp, hw⟩, hz, hk⟩, stp⟩ := run T hT Y
  cases hv
  rw [h0] at hz hk
  have hS' : va_S (bA X) s.heap T'.heap (locs ++ Lc) := ⟨Nat.le_trans hS.1 (by rw [e1]; exact hz), fun q h1 h2 => by rw [e1, hk q (Nat.lt_of_lt_of_le h1 hS.1) h2]; exact hS.2.1 q h1 h2, fun q hq => by
      rcases List.mem_append.mp hq with h | h
      · exact hS.2.2 q h
      · exact hLc q h⟩
  obtain ⟨t2, a1, b1⟩ := kk v S' mi' hp p l e s m args below meth c T'.heap (locs ++ Lc) ls C hS' (by rw [e1]; exact hw) hL T' rfl X'
  exact ⟨t2, stp t2 a1, b1⟩
theorem mw_callV {d mc ms n ci i z idx : Nat} {g : Fr} {As : List Value} {P : Pt3} (hd : decode fr.2.1 pc = .ok (.invokevirtual idx, 3)) (hl : Cond.methodLink fr.1.cls idx g.1 ∈ TW) (hm : MFV g n ci) (hok : Ok d mc ms g X (.ref (X.1 + i) :: As) S mi P) (hk : Kd S i ci z) (hn : As.length = n) (hst : st0 = As.reverse ++ .ref (X.1 + i) :: st) (hr : (st.map fun v => v.category).sum ≤ 8) (hR : d + 1 ≤ R.frames ∧ 40 + 40 * d ≤ R.locals) (hc : kc + mc ≤ R.cells ∧ sl + ms ≤ R.slots)
    (kk : ∀ r S' mi', P r S' mi' → MW X fr R (kc + mc) (sl + ms) (pc + 3) L (r.toList ++ st) S' mi' Q) : MW X fr R kc sl pc L st0 S mi Q := by
  intro p l e s m args below meth c H locs ls C hS hP hL
  obtain ⟨⟨m1, m2, m3, m4⟩, m5, m6, q, m7, m8⟩ := hm
  obtain ⟨g1, g2, g3, -⟩ := ci_all ci q m7
  have hts := C.2.2.2.2.1
  have cb : CallB R s args fr.1.cls idx g.1 g.2.1 g.2.2.1 g.2.2.2 (.code g.1 g.2.1 g.2.2.1 g.2.2.2 :: TW) (rmOf d mc ms) mc ms n := callB_of n hts (goodTW m1) rfl rfl rfl (hts _ m2) (hts _ hl) m3 ⟨hR.1, by show 8 + (g.2.2.1 + 11) + 40 * d ≤ R.locals; omega⟩
  have hrecv := va_recv C.2.2.2.2.2.2.2.2.2.1 hP.2 m7 (by rw [ws_at hk.1, cell_obj hk g2])
  rw [m8] at hrecv
  exact W_call C hS hL (va_runV ⟨C.1, C.2.1, C.2.2.1, C.2.2.2.1, hts⟩ (hok l) ⟨cb, hts _ m5, hts _ m6⟩ ⟨Pre3_blind, hrecv, Pre3_at C hS hP⟩ rfl hn hL.2.1.1 hst (lv_room hr) hd hc) kk
theorem mw_callS {d mc ms n idx : Nat} {g : Fr} {As : List Value} {P : Pt3} (hd : decode fr.2.1 pc = .ok (.invokestatic idx, 3)) (hl : Cond.methodLink fr.1.cls idx g.1 ∈ TW) (hm : MFS g n) (hok : Ok d mc ms g X As S mi P) (hn : As.length = n) (hst : st0 = As.reverse ++ st) (hr : (st.map fun v => v.category).sum ≤ 8) (hR : d + 1 ≤ R.frames ∧ 40 + 40 * d ≤ R.locals) (hc : kc + mc ≤ R.cells ∧ sl + ms ≤ R.slots)
    (kk : ∀ r S' mi', P r S' mi' → MW X fr R (kc + mc) (sl + ms) (pc + 3) L (r.toList ++ st) S' mi' Q) : MW X fr R kc sl pc L st0 S mi Q := by
  intro p l e s m args below meth c H locs ls C hS hP hL
  obtain ⟨⟨m1, m2, m3, m4⟩, m5⟩ := hm
  have hts := C.2.2.2.2.1
  have cb : CallB R s args fr.1.cls idx g.1 g.2.1 g.2.2.1 g.2.2.2 (.code g.1 g.2.1 g.2.2.1 g.2.2.2 :: TW) (rmOf d mc ms) mc ms n := callB_of n hts (goodTW m1) rfl rfl rfl (hts _ m2) (hts _ hl) m3 ⟨hR.1, by show 8 + (g.2.2.1 + 11) + 40 * d ≤ R.locals; omega⟩
  exact W_call C hS hL (va_runS ⟨C.1, C.2.1, C.2.2.1, C.2.2.2.1, hts⟩ (hok l) ⟨cb, hts _ m5⟩ ⟨Pre3_blind, Pre3_at C hS hP⟩ rfl hn hL.2.1.1 hst (lv_room hr) hd hc) kk
theorem mw_callI {d mc ms n i idx : Nat} {g : Fr} {As : List Value} {P : Pt3} (hd : decode fr.2.1 pc = .ok (.invokespecial idx, 3)) (hl : Cond.methodLink fr.1.cls idx g.1 ∈ TW) (hm : MFI g n) (hok : Ok d mc ms g X (.ref (X.1 + i) :: As) S mi P) (hn : As.length = n) (hst : st0 = As.reverse ++ .ref (X.1 + i) :: st) (hr : (st.map fun v => v.category).sum ≤ 8) (hR : d + 1 ≤ R.frames ∧ 40 + 40 * d ≤ R.locals) (hc : kc + mc ≤ R.cells ∧ sl + ms ≤ R.slots)
    (kk : ∀ r S' mi', P r S' mi' → MW X fr R (kc + mc) (sl + ms) (pc + 3) L (r.toList ++ st) S' mi' Q) : MW X fr R kc sl pc L st0 S mi Q := by
  intro p l e s m args below meth c H locs ls C hS hP hL
  obtain ⟨⟨m1, m2, m3, m4⟩, m5, m6, m7⟩ := hm
  have hts := C.2.2.2.2.1
  have cb : CallB R s args fr.1.cls idx g.1 g.2.1 g.2.2.1 none (.code g.1 g.2.1 g.2.2.1 g.2.2.2 :: TW) (rmOf d mc ms) mc ms n := callB_of n hts (goodTW m1) (by rw [m7]) rfl rfl (hts _ m2) (hts _ hl) m3 ⟨hR.1, by show 8 + (g.2.2.1 + 11) + 40 * d ≤ R.locals; omega⟩
  exact W_call C hS hL (va_runI ⟨C.1, C.2.1, C.2.2.1, C.2.2.2.1, hts⟩ (hok l) ⟨cb, m6, hts _ m5⟩ ⟨Pre3_blind, Pre3_at C hS hP⟩ rfl hn hL.2.1.1 hst (lv_room hr) hd hc) kk
/-- of a nest mate's class -/
theorem mw_callSN {d mc ms n idx : Nat} {g : Fr} {host : String} {As : List Value} {P : Pt3} (hd : decode fr.2.1 pc = .ok (.invokestatic idx, 3)) (hl : Cond.methodLinkNest fr.1.cls idx g.1 host ∈ nestW) (hm : MFS g n) (hok : Ok d mc ms g X As S mi P) (hn : As.length = n) (hst : st0 = As.reverse ++ st) (hr : (st.map fun v => v.category).sum ≤ 8) (hR : d + 1 ≤ R.frames ∧ 40 + 40 * d ≤ R.locals) (hc : kc + mc ≤ R.cells ∧ sl + ms ≤ R.slots)
    (kk : ∀ r S' mi', P r S' mi' → MW X fr R (kc + mc) (sl + ms) (pc + 3) L (r.toList ++ st) S' mi' Q) : MW X fr R kc sl pc L st0 S mi Q := by
  intro p l e s m args below meth c H locs ls C hS hP hL
  obtain ⟨⟨m1, m2, m3, m4⟩, m5⟩ := hm
  have hts := C.2.2.2.2.1
  have cb := va_cnB (own := fr.1.cls) (index := idx) (host := host) (R := R) (rm := rmOf d mc ms) (mc := mc) (ms := ms) n hts (goodTW m1) rfl rfl rfl (C.2.2.2.2.2.2.2.2.2.2.1 _ hl) (hts _ m2) m3 ⟨hR.1, by show 8 + (g.2.2.1 + 11) + 40 * d ≤ R.locals; omega⟩
  exact W_call C hS hL (va_runSN ⟨C.1, C.2.1, C.2.2.1, C.2.2.2.1, hts⟩ (hok l) ⟨cb, hts _ m5, trivial⟩ ⟨Pre3_blind, Pre3_at C hS hP⟩ rfl hn hL.2.1.1 hst (lv_room hr) hd hc) kk
theorem mw_callIN {d mc ms n i idx : Nat} {g : Fr} {host : String} {As : List Value} {P : Pt3} (hd : decode fr.2.1 pc = .ok (.invokespecial idx, 3)) (hl : Cond.methodLinkNest fr.1.cls idx g.1 host ∈ nestW) (hm : MFI g n) (hok : Ok d mc ms g X (.ref (X.1 + i) :: As) S mi P) (hn : As.length = n) (hst : st0 = As.reverse ++ .ref (X.1 + i) :: st) (hr : (st.map fun v => v.category).sum ≤ 8) (hR : d + 1 ≤ R.frames ∧ 40 + 40 * d ≤ R.locals) (hc : kc + mc ≤ R.cells ∧ sl + ms ≤ R.slots)
    (kk : ∀ r S' mi', P r S' mi' → MW X fr R (kc + mc) (sl + ms) (pc + 3) L (r.toList ++ st) S' mi' Q) : MW X fr R kc sl pc L st0 S mi Q := by
  intro p l e s m args below meth c H locs ls C hS hP hL
  obtain ⟨⟨m1, m2, m3, m4⟩, m5, m6, m7⟩ := hm
  have hts := C.2.2.2.2.1
  have cb := va_cnB (own := fr.1.cls) (index := idx) (host := host) (R := R) (rm := rmOf d mc ms) (mc := mc) (ms := ms) (y := g.1) (bytes := g.2.1) (maxL := g.2.2.1) (ret := none) (ws := .code g.1 g.2.1 g.2.2.1 g.2.2.2 :: TW) n hts (goodTW m1) (by rw [m7]) rfl rfl (C.2.2.2.2.2.2.2.2.2.2.1 _ hl) (hts _ m2) m3 ⟨hR.1, by show 8 + (g.2.2.1 + 11) + 40 * d ≤ R.locals; omega⟩
  exact W_call C hS hL (va_runIN ⟨C.1, C.2.1, C.2.2.1, C.2.2.2.1, hts⟩ (hok l) ⟨cb, m6, hts _ m5⟩ ⟨Pre3_blind, Pre3_at C hS hP⟩ rfl hn hL.2.1.1 hst (lv_room hr) hd hc) kk
theorem mw_objI {idx i : Nat} (hd : decode fr.2.1 pc = .ok (.invokespecial idx, 3)) (hl : Cond.methodLink fr.1.cls idx Lib.objectInit ∈ TW) (hr : (st.map fun v => v.category).sum ≤ 8) (hR : 1 ≤ R.frames ∧ 40 ≤ R.locals) (kk : MW X fr R kc sl (pc + 3) L st S mi Q) : MW X fr R kc sl pc L (.ref i :: st) S mi Q :=
  fun p l e s m args below meth c H locs ls C hS hP hL => W.objInit C.1 C.2.1 C.2.2.2.1 (C.2.2.2.2.1 _ hl) (C.2.2.2.2.1 _ obj_ok.1) (C.2.2.2.2.1 _ obj_ok.2) rfl (by rw [C.2.2.1]; exact hL.2.1.1) rfl hd hR.1 (by have := lv_room (m := m) (pc := pc) (ls := ls) (rest := .ref i :: st) hr; omega) (kk p l e s m args below meth c H locs ls C hS hP hL)
theorem mw_mmax {idx : Nat} {x y : Int32} (hd : decode fr.2.1 pc = .ok (.invokestatic idx, 3)) (hl : Cond.methodLink fr.1.cls idx Lib.Math.max.name ∈ TW) (hr : (st.map fun v => v.category).sum ≤ 8) (hR : 1 ≤ R.frames ∧ 40 ≤ R.locals) (hc : kc ≤ R.cells ∧ sl ≤ R.slots) (kk : MW X fr R kc sl (pc + 3) L (.int (if x < y then y else x) :: st) S mi Q) : MW X fr R kc sl pc L (.int y :: .int x :: st) S mi Q :=
  fun p l e s m args below meth c H locs ls C hS hP hL => va_mmax C.1 C.2.1 (by rw [C.2.2.1]; exact hL.2.1.1.symm) C.2.2.2.1 (C.2.2.2.2.1 _ hl) (C.2.2.2.2.1 _ math_max.1) (C.2.2.2.2.1 _ math_ini) (C.2.2.2.2.1 _ math_max.2) hR.1 (by omega) hc.1 hc.2 hd (kk p l e s m args below meth c H locs ls C hS hP hL)
theorem mw_mmin {idx : Nat} {x y : Int32} (hd : decode fr.2.1 pc = .ok (.invokestatic idx, 3)) (hl : Cond.methodLink fr.1.cls idx Lib.Math.min.name ∈ TW) (hr : (st.map fun v => v.category).sum ≤ 8) (hR : 1 ≤ R.frames ∧ 40 ≤ R.locals) (hc : kc ≤ R.cells ∧ sl ≤ R.slots) (kk : MW X fr R kc sl (pc + 3) L (.int (if y < x then y else x) :: st) S mi Q) : MW X fr R kc sl pc L (.int y :: .int x :: st) S mi Q :=
  fun p l e s m args below meth c H locs ls C hS hP hL => va_mmin C.1 C.2.1 (by rw [C.2.2.1]; exact hL.2.1.1.symm) C.2.2.2.1 (C.2.2.2.2.1 _ hl) (C.2.2.2.2.1 _ math_min.1) (C.2.2.2.2.1 _ math_ini) (C.2.2.2.2.1 _ math_min.2) hR.1 (by omega) hc.1 hc.2 hd (kk p l e s m args below meth c H locs ls C hS hP hL)
theorem mw_mabs {idx : Nat} {x : Int32} (hd : decode fr.2.1 pc = .ok (.invokestatic idx, 3)) (hl : Cond.methodLink fr.1.cls idx Lib.Math.abs.name ∈ TW) (hr : (st.map fun v => v.category).sum ≤ 8) (hR : 1 ≤ R.frames ∧ 40 ≤ R.locals) (hc : kc ≤ R.cells ∧ sl ≤ R.slots) (kk : MW X fr R kc sl (pc + 3) L (.int (if 0 ≤ x then x else 0 - x) :: st) S mi Q) : MW X fr R kc sl pc L (.int x :: st) S mi Q :=
  fun p l e s m args below meth c H locs ls C hS hP hL => va_mabs C.1 C.2.1 (by rw [C.2.2.1]; exact hL.2.1.1.symm) C.2.2.2.1 (C.2.2.2.2.1 _ hl) (C.2.2.2.2.1 _ math_abs.1) (C.2.2.2.2.1 _ math_ini) (C.2.2.2.2.1 _ math_abs.2) hR.1 (by omega) hc.1 hc.2 hd (kk p l e s m args below meth c H locs ls C hS hP hL)
theorem mw_getKA {idx : Nat} (hd : decode fr.2.1 pc = .ok (.getstatic idx, 3)) (hl : Cond.fieldLinkNest fr.1.cls idx RX6 "KIND_ABOVE" "[I" RX6 ∈ nestW) (kk : MW X fr R kc sl (pc + 3) L (.ref X.2.2.2.1 :: st) S mi Q) : MW X fr R kc sl pc L st S mi Q :=
  fun p l e s m args below meth c H locs ls C hS hP hL => va_getsN C.1 C.2.1 C.2.2.2.2.2.2.2.2.2.2.2.2.1 hS C.2.2.2.1 (va_Nw.use rfl (C.2.2.2.2.2.2.2.2.2.2.1 _ hl)) (fun x h => h) hd (kk p l e s m args below meth c H locs ls C hS hP hL)
theorem mw_kald {j : Int32} {v : Value} (hd : decode fr.2.1 pc = .ok (.iaload, 1)) (hin : vp_in j 6) (hv : kaF j.toNatClampNeg = v) (kk : MW X fr R kc sl (pc + 1) L (v :: st) S mi Q) : MW X fr R kc sl pc L (.int j :: .ref X.2.2.2.1 :: st) S mi Q :=
  fun p l e s m args below meth c H locs ls C hS hP hL => va_ti C.1 C.2.1 C.2.2.2.2.2.2.2.2.2.2.2.2.2.1 hS hin hv hd (kk p l e s m args below meth c H locs ls C hS hP hL)
theorem mw_anew {idx ci c0 t0 N : Nat} {n : Int32} {q : vw_C} (hd : decode fr.2.1 pc = .ok (.anewarray idx, 3)) (hq : vwCl[ci]? = some q) (hty : aTy c0 ci t0) (hcl : Cond.classLink fr.1.cls idx q.1 ∈ TW) (hao : q.1 ∈ aoC) (hn : ¬ n < 0) (hN : n.toNatClampNeg = N) (hb : N * 4 ≤ 536870912) (hc : kc + 1 ≤ R.cells) (hs : sl + N ≤ R.slots) (kk : MW X fr R (kc + 1) (sl + N) (pc + 3) L (.ref (X.1 + S.1) :: st) (nwS S c0 N) (nwM S mi) Q) : MW X fr R kc sl pc L (.int n :: st) S mi Q := by
  intro p l e s m args below meth c H locs ls C hS hP hL
  obtain ⟨r, hr1, hr2, hr3, hr4⟩ := aTy_ok hty X.2.2.1
  have hrq : r = q := Option.some.inj (hr1.symm.trans hq)
  subst hrq
  subst hN
  have hK := C.2.2.2.2.2.2.2.2.2.1
  refine W.anew C.1 C.2.1 C.2.2.2.1 (C.2.2.2.2.1 _ hcl) (va_AO.use (C.2.2.2.2.2.2.2.2.2.2.2.1 _ hao)) rfl hd rfl hn hb hc hs fun cA kA comp f1 f2 f3 f4 => ?_
  obtain ⟨kA', comp', k1, k2, k3, k4⟩ := (hK.2 t0 _ hr2).2
  have hcA : cA = X.2.2.1 (c0 - 8) := Option.some.inj (f1.symm.trans k4)
  generalize hH1 : H.push ({ cls := cA, slots := Array.replicate n.toNatClampNeg .null, vm := .none } : Cell) = H1
  have z1 : H1.size = H.size + 1 := by rw [← hH1, Array.size_push]
  have e1 : H1[H.size]? = some (arrV cA n.toNatClampNeg (fun _ => .null)) := by rw [← hH1, Array.getElem?_push_size, ← arrV_new]
  have o1 : ∀ q : Nat, q < H.size → H1[q]? = H[q]? := fun q hq => by rw [← hH1, Array.getElem?_push, if_neg (Nat.ne_of_lt hq)]
  have hsz : H.size = X.1 + S.1 := hP.1
  rw [hsz] at e1
  refine (show ∀ h, h = H.size → W p l e R s m args below meth c H1 locs (kc + 1) (sl + n.toNatClampNeg) (Q below args s) (F0 m (pc + 3) ls (.ref h :: st)) from fun h hh => ?_) H.size rfl
  rw [hh, hsz]
  refine kk p l e s m args below meth c H1 locs ls C (va_S_new hS z1 o1) (Wp_new hP z1 o1 ?_) hL
  rw [cell_ref (c := c0) (z := n.toNatClampNeg) ⟨by simp [nwS], by simp [nwS]⟩ hr3]
  show H1[X.1 + S.1]? = some (vp_cell _ _)
  rw [e1, vp_cell_q, hcA]
  congr 2
  funext q
  simp [nwS, va_rf]
/-- System.arraycopy over int[] -/
def m_cpy (mi : Mem) (a b sp dp n : Nat) : Mem := fun i k => if i = b ∧ dp ≤ k ∧ k < dp + n then mi a (sp + (k - dp)) else mi i k
theorem mw_acopy {idx a b za zb : Nat} {sp dp n : Int32} (hd : decode fr.2.1 pc = .ok (.invokestatic idx, 3)) (hl : Cond.methodLink fr.1.cls idx arraycopyName ∈ TW) (ha : Kd S a 8 za) (hb : Kd S b 8 zb) (h1 : ¬ sp < 0) (h2 : ¬ dp < 0) (h3 : ¬ n < 0) (h4 : sp.toNatClampNeg + n.toNatClampNeg ≤ za) (h5 : dp.toNatClampNeg + n.toNatClampNeg ≤ zb) (hr : (st.map fun v => v.category).sum ≤ 8) (hR : 1 ≤ R.frames ∧ 40 ≤ R.locals)
    (kk : MW X fr R kc sl (pc + 3) L st S (m_cpy mi a b sp.toNatClampNeg dp.toNatClampNeg n.toNatClampNeg) Q) : MW X fr R kc sl pc L (.int n :: .int dp :: .ref (X.1 + b) :: .int sp :: .ref (X.1 + a) :: st) S mi Q := by
  intro p l e s m args below meth c H locs ls C hS hP hL
  have nn : ∀ z : Int32, ¬ z < 0 → z.toInt = (z.toNatClampNeg : Int) := by
    intro z hz
    have hz0 : (0 : Int) ≤ z.toInt := by
      have := Int32.not_lt.mp hz
      simpa using Int32.le_iff_toInt_le.mp this
    show z.toInt = ((z.toInt.toNat : Nat) : Int)
    omega
  intro T hT Y
  have hca : H[X.1 + a]? = some (vp_cell (X.2.2.1 0) (za, .inl (mi a))) := by
    have := hP.2 a _ (ws_at ha.1)
    rw [cell_int ha (by decide) (by decide)] at this
    exact this
  have hcb : H[X.1 + b]? = some (vp_cell (X.2.2.1 0) (zb, .inl (mi b))) := by
    have := hP.2 b _ (ws_at hb.1)
    rw [cell_int hb (by decide) (by decide)] at this
    exact this
  have hK := C.2.2.2.2.2.2.2.2.2.1
  have hts := C.2.2.2.2.1
  obtain ⟨-, k0, hk0, cm0, hkk0⟩ := (hK.2 0 _ rfl).1 za (fun j => .int (mi a j))
  obtain ⟨-, k1, hk1, cm1, hkk1⟩ := (hK.2 0 _ rfl).1 zb (fun j => .int (mi b j))
  obtain ⟨vm', Y', step⟩ := Y.arraycopy C.1 C.2.2.2.1 (hts _ hl) (hts _ acopy_ok.1) (hts _ acopy_ok.2.1) (hts _ acopy_ok.2.2) (src := X.1 + a) (dst := X.1 + b) (cs := vp_cell (X.2.2.1 0) (za, .inl (mi a))) (cd := vp_cell (X.2.2.1 0) (zb, .inl (mi b))) (srcPos := sp) (destPos := dp) (n := n) (by rw [hT]; exact hca) (by rw [hT]; exact hcb)
    (fun _ h => by cases h) (fun _ h => by cases h) (fun h => by cases h) (fun h => by cases h) hk0 hk1 hkk0 hkk1 (by simp [refKind]) h1 h2 h3
    (by rw [nn sp h1, nn n h3]; show ¬ _ > ((arrV (X.2.2.1 0) za (fun j => .int (mi a j))).slots.size : Int); rw [arrV_size]; omega)
    (by rw [nn dp h2, nn n h3]; show ¬ _ > ((arrV (X.2.2.1 0) zb (fun j => .int (mi b j))).slots.size : Int); rw [arrV_size]; omega)
    (fun vm₁ _ i hi => by
      have e : (vp_cell (X.2.2.1 0) (za, .inl (mi a))).slots.getD (sp.toNatClampNeg + i) .null = .int (mi a (sp.toNatClampNeg + i)) := by
        show (arrV (X.2.2.1 0) za (fun j => .int (mi a j))).slots.getD _ _ = _
        rw [Array.getD_eq_getD_getElem?, arrV_read _ _ (by omega)]
        rfl
      refine ⟨?_, ?_⟩
      · rw [e]; rfl
      · rw [e]; exact trivial)
    (g := F0 m pc ls (.int n :: .int dp :: .ref (X.1 + b) :: .int sp :: .ref (X.1 + a) :: st)) rfl (by rw [C.2.2.1]; exact hL.2.1.1) (rest := st) rfl (by rw [C.2.1]; exact hd) hR.1 (by
      show 2 * 0 + _ + (nativeFrameWords "java/lang/System" "arraycopy" 5 + 11) ≤ _
      have : nativeFrameWords "java/lang/System" "arraycopy" 5 + 11 ≤ 32 := by decide +kernel
      omega)
  have ecp : copied (vp_cell (X.2.2.1 0) (za, .inl (mi a))) (vp_cell (X.2.2.1 0) (zb, .inl (mi b))) sp dp n = vp_cell (X.2.2.1 0) (zb, .inl (va_cpy (mi a) (mi b) sp.toNatClampNeg dp.toNatClampNeg n.toNatClampNeg)) := va_copied (fun z => .int z) (X.2.2.1 0) (X.2.2.1 0) (mi a) (mi b) h4
  rw [ecp] at Y' step
  have hlt : X.1 + b < H.size := (Array.getElem?_eq_some_iff.mp hcb).1
  generalize hcell : vp_cell (X.2.2.1 0) (zb, .inl (va_cpy (mi a) (mi b) sp.toNatClampNeg dp.toNatClampNeg n.toNatClampNeg)) = cell at Y' step
  have hheap : ((T.setVm vm').setCell (X.1 + b) cell).heap = H.setIfInBounds (X.1 + b) cell := by rw [← hT]; rfl
  have oq : ∀ q : Nat, q ≠ X.1 + b → (H.setIfInBounds (X.1 + b) cell)[q]? = H[q]? := fun q hq => by simp [Array.getElem?_setIfInBounds, Ne.symm hq]
  have hS1 : ∀ Lc : List Loc, (∀ q ∈ Lc, q.base = X.1 + b) → va_S (bA X) s.heap (H.setIfInBounds (X.1 + b) cell) (locs ++ Lc) := fun Lc hLc => ⟨by simp; exact hS.1, fun q g1 g2 => by
      rw [oq q (fun e => g2 (by rw [e]; exact Nat.le_add_right _ _))]
      exact hS.2.1 q g1 g2, fun q hq => by
      rcases List.mem_append.mp hq with h | h
      · exact hS.2.2 q h
      · show X.1 ≤ q.base
        rw [hLc q h]; exact Nat.le_add_right _ _⟩
  have hW1 : Wp X S (m_cpy mi a b sp.toNatClampNeg dp.toNatClampNeg n.toNatClampNeg) (H.setIfInBounds (X.1 + b) cell) := by
    refine Wp_put (i := b) hP rfl (fun j hj => cell_eq rfl (by funext q; simp [m_cpy, hj]) rfl) (by simp) oq ?_
    rw [cell_int hb (by decide) (by decide)]
    show (H.setIfInBounds (X.1 + b) cell)[X.1 + b]? = some (vp_cell _ _)
    rw [Array.getElem?_setIfInBounds]
    simp only [hlt, if_true, ← hcell]
    congr 4
    funext q
    simp [va_cpy, m_cpy]
  obtain ⟨t, a1, b1⟩ := kk p l e s m args below meth c _ _ ls C (hS1 _ (fun q hq => by
    obtain ⟨z, -, hz⟩ := List.mem_map.mp hq
    rw [← hz])) hW1 hL _ hheap Y'
  exact ⟨t, step t a1, b1⟩
end MWC
end
section
theorem cl_L_7 : Cond.classLink RL 7 RX6 ∈ TW := TW_of 73 (by decide +kernel) (by decide +kernel)
theorem ml_L_9 : Cond.methodLink RL 9 yX6_init ∈ TW := TW_of 75 (by decide +kernel) (by decide +kernel)
theorem ml_X6_1 : Cond.methodLink RX6 1 Lib.objectInit ∈ TW := TW_of 78 (by decide +kernel) (by decide +kernel)
theorem cl_X6_7 : Cond.classLink RX6 7 RX5 ∈ TW := TW_of 81 (by decide +kernel) (by decide +kernel)
theorem ml_X6_9 : Cond.methodLink RX6 9 yX5_init ∈ TW := TW_of 83 (by decide +kernel) (by decide +kernel)
theorem ml_X5_3 : Cond.methodLink RX5 3 Lib.objectInit ∈ TW := TW_of 86 (by decide +kernel) (by decide +kernel)
theorem cl_X5_18 : Cond.classLink RX5 18 RX0 ∈ TW := TW_of 87 (by decide +kernel) (by decide +kernel)
theorem cl_X5_34 : Cond.classLink RX5 34 RX4 ∈ TW := TW_of 89 (by decide +kernel) (by decide +kernel)
theorem ml_X0_3 : Cond.methodLink RX0 3 Lib.objectInit ∈ TW := TW_of 95 (by decide +kernel) (by decide +kernel)
theorem fl_X0_9 : FL RX0 9 0 0 := ⟨_, rfl, by decide, rfl, TW_of 96 (by decide +kernel) (by decide +kernel)⟩
theorem fl_X6_70 : FL RX6 70 0 0 := ⟨_, rfl, by decide, rfl, TW_of 97 (by decide +kernel) (by decide +kernel)⟩
theorem fl_X5_120 : FL RX5 120 0 0 := ⟨_, rfl, by decide, rfl, TW_of 98 (by decide +kernel) (by decide +kernel)⟩
theorem fl_X0_15 : FL RX0 15 0 1 := ⟨_, rfl, by decide, rfl, TW_of 99 (by decide +kernel) (by decide +kernel)⟩
theorem fl_X6_76 : FL RX6 76 0 1 := ⟨_, rfl, by decide, rfl, TW_of 100 (by decide +kernel) (by decide +kernel)⟩
theorem fl_X5_117 : FL RX5 117 0 1 := ⟨_, rfl, by decide, rfl, TW_of 101 (by decide +kernel) (by decide +kernel)⟩
theorem fl_X0_18 : FL RX0 18 0 2 := ⟨_, rfl, by decide, rfl, TW_of 102 (by decide +kernel) (by decide +kernel)⟩
theorem fl_X6_79 : FL RX6 79 0 2 := ⟨_, rfl, by decide, rfl, TW_of 103 (by decide +kernel) (by decide +kernel)⟩
theorem fl_X5_123 : FL RX5 123 0 2 := ⟨_, rfl, by decide, rfl, TW_of 104 (by decide +kernel) (by decide +kernel)⟩
theorem fl_X0_21 : FL RX0 21 0 3 := ⟨_, rfl, by decide, rfl, TW_of 105 (by decide +kernel) (by decide +kernel)⟩
theorem fl_X6_82 : FL RX6 82 0 3 := ⟨_, rfl, by decide, rfl, TW_of 106 (by decide +kernel) (by decide +kernel)⟩
theorem fl_X5_178 : FL RX5 178 0 3 := ⟨_, rfl, by decide, rfl, TW_of 107 (by decide +kernel) (by decide +kernel)⟩
theorem fl_X0_24 : FL RX0 24 0 4 := ⟨_, rfl, by decide, rfl, TW_of 108 (by decide +kernel) (by decide +kernel)⟩
theorem fl_X6_85 : FL RX6 85 0 4 := ⟨_, rfl, by decide, rfl, TW_of 109 (by decide +kernel) (by decide +kernel)⟩
theorem fl_X5_175 : FL RX5 175 0 4 := ⟨_, rfl, by decide, rfl, TW_of 110 (by decide +kernel) (by decide +kernel)⟩
theorem fl_X5_9 : FL RX5 9 5 0 := ⟨_, rfl, by decide, rfl, TW_of 123 (by decide +kernel) (by decide +kernel)⟩
theorem fl_X6_105 : FL RX6 105 5 0 := ⟨_, rfl, by decide, rfl, TW_of 124 (by decide +kernel) (by decide +kernel)⟩
theorem fl_X5_15 : FL RX5 15 5 1 := ⟨_, rfl, by decide, rfl, TW_of 125 (by decide +kernel) (by decide +kernel)⟩
theorem fl_X6_108 : FL RX6 108 5 1 := ⟨_, rfl, by decide, rfl, TW_of 126 (by decide +kernel) (by decide +kernel)⟩
theorem fl_X5_20 : FL RX5 20 5 2 := ⟨_, rfl, by decide, rfl, TW_of 127 (by decide +kernel) (by decide +kernel)⟩
theorem fl_X6_66 : FL RX6 66 5 2 := ⟨_, rfl, by decide, rfl, TW_of 128 (by decide +kernel) (by decide +kernel)⟩
theorem fl_X5_59 : FL RX5 59 5 3 := ⟨_, rfl, by decide, rfl, TW_of 129 (by decide +kernel) (by decide +kernel)⟩
theorem fl_X6_130 : FL RX6 130 5 3 := ⟨_, rfl, by decide, rfl, TW_of 130 (by decide +kernel) (by decide +kernel)⟩
theorem fl_X5_66 : FL RX5 66 5 4 := ⟨_, rfl, by decide, rfl, TW_of 131 (by decide +kernel) (by decide +kernel)⟩
theorem fl_X6_118 : FL RX6 118 5 4 := ⟨_, rfl, by decide, rfl, TW_of 132 (by decide +kernel) (by decide +kernel)⟩
theorem fl_X5_24 : FL RX5 24 5 5 := ⟨_, rfl, by decide, rfl, TW_of 133 (by decide +kernel) (by decide +kernel)⟩
theorem fl_X6_121 : FL RX6 121 5 5 := ⟨_, rfl, by decide, rfl, TW_of 134 (by decide +kernel) (by decide +kernel)⟩
theorem fl_X5_69 : FL RX5 69 5 6 := ⟨_, rfl, by decide, rfl, TW_of 135 (by decide +kernel) (by decide +kernel)⟩
theorem fl_X6_124 : FL RX6 124 5 6 := ⟨_, rfl, by decide, rfl, TW_of 136 (by decide +kernel) (by decide +kernel)⟩
theorem fl_X5_28 : FL RX5 28 5 7 := ⟨_, rfl, by decide, rfl, TW_of 137 (by decide +kernel) (by decide +kernel)⟩
theorem fl_X6_127 : FL RX6 127 5 7 := ⟨_, rfl, by decide, rfl, TW_of 138 (by decide +kernel) (by decide +kernel)⟩
theorem fl_X5_72 : FL RX5 72 5 8 := ⟨_, rfl, by decide, rfl, TW_of 139 (by decide +kernel) (by decide +kernel)⟩
theorem fl_X6_145 : FL RX6 145 5 8 := ⟨_, rfl, by decide, rfl, TW_of 140 (by decide +kernel) (by decide +kernel)⟩
theorem fl_X5_75 : FL RX5 75 5 9 := ⟨_, rfl, by decide, rfl, TW_of 141 (by decide +kernel) (by decide +kernel)⟩
theorem fl_X6_158 : FL RX6 158 5 9 := ⟨_, rfl, by decide, rfl, TW_of 142 (by decide +kernel) (by decide +kernel)⟩
theorem fl_X5_78 : FL RX5 78 5 10 := ⟨_, rfl, by decide, rfl, TW_of 143 (by decide +kernel) (by decide +kernel)⟩
theorem fl_X6_148 : FL RX6 148 5 10 := ⟨_, rfl, by decide, rfl, TW_of 144 (by decide +kernel) (by decide +kernel)⟩
theorem fl_X5_31 : FL RX5 31 5 11 := ⟨_, rfl, by decide, rfl, TW_of 145 (by decide +kernel) (by decide +kernel)⟩
theorem fl_X6_142 : FL RX6 142 5 11 := ⟨_, rfl, by decide, rfl, TW_of 146 (by decide +kernel) (by decide +kernel)⟩
theorem fl_X5_36 : FL RX5 36 5 12 := ⟨_, rfl, by decide, rfl, TW_of 147 (by decide +kernel) (by decide +kernel)⟩
theorem fl_X6_226 : FL RX6 226 5 12 := ⟨_, rfl, by decide, rfl, TW_of 148 (by decide +kernel) (by decide +kernel)⟩
theorem fl_X5_81 : FL RX5 81 5 13 := ⟨_, rfl, by decide, rfl, TW_of 149 (by decide +kernel) (by decide +kernel)⟩
theorem fl_X6_223 : FL RX6 223 5 13 := ⟨_, rfl, by decide, rfl, TW_of 150 (by decide +kernel) (by decide +kernel)⟩
theorem fl_X5_40 : FL RX5 40 5 14 := ⟨_, rfl, by decide, rfl, TW_of 151 (by decide +kernel) (by decide +kernel)⟩
theorem fl_X6_238 : FL RX6 238 5 14 := ⟨_, rfl, by decide, rfl, TW_of 152 (by decide +kernel) (by decide +kernel)⟩
theorem fl_X5_43 : FL RX5 43 5 15 := ⟨_, rfl, by decide, rfl, TW_of 153 (by decide +kernel) (by decide +kernel)⟩
theorem fl_X5_46 : FL RX5 46 5 16 := ⟨_, rfl, by decide, rfl, TW_of 154 (by decide +kernel) (by decide +kernel)⟩
theorem fl_X5_49 : FL RX5 49 5 17 := ⟨_, rfl, by decide, rfl, TW_of 155 (by decide +kernel) (by decide +kernel)⟩
theorem cl_X6_22 : Cond.classLink RX6 22 RX3 ∈ TW := TW_of 193 (by decide +kernel) (by decide +kernel)
theorem ml_X3_3 : Cond.methodLink RX3 3 Lib.objectInit ∈ TW := TW_of 198 (by decide +kernel) (by decide +kernel)
theorem fl_X3_9 : FL RX3 9 3 0 := ⟨_, rfl, by decide, rfl, TW_of 199 (by decide +kernel) (by decide +kernel)⟩
theorem fl_X3_18 : FL RX3 18 3 1 := ⟨_, rfl, by decide, rfl, TW_of 200 (by decide +kernel) (by decide +kernel)⟩
theorem fl_X6_204 : FL RX6 204 3 1 := ⟨_, rfl, by decide, rfl, TW_of 201 (by decide +kernel) (by decide +kernel)⟩
theorem fl_X3_59 : FL RX3 59 3 2 := ⟨_, rfl, by decide, rfl, TW_of 202 (by decide +kernel) (by decide +kernel)⟩
theorem fl_X6_216 : FL RX6 216 3 2 := ⟨_, rfl, by decide, rfl, TW_of 203 (by decide +kernel) (by decide +kernel)⟩
theorem fl_X3_22 : FL RX3 22 3 3 := ⟨_, rfl, by decide, rfl, TW_of 204 (by decide +kernel) (by decide +kernel)⟩
theorem fl_X3_25 : FL RX3 25 3 4 := ⟨_, rfl, by decide, rfl, TW_of 205 (by decide +kernel) (by decide +kernel)⟩
theorem fl_X3_47 : FL RX3 47 3 5 := ⟨_, rfl, by decide, rfl, TW_of 206 (by decide +kernel) (by decide +kernel)⟩
theorem fl_X3_28 : FL RX3 28 3 6 := ⟨_, rfl, by decide, rfl, TW_of 207 (by decide +kernel) (by decide +kernel)⟩
theorem fl_X3_31 : FL RX3 31 3 7 := ⟨_, rfl, by decide, rfl, TW_of 208 (by decide +kernel) (by decide +kernel)⟩
theorem fl_X3_34 : FL RX3 34 3 8 := ⟨_, rfl, by decide, rfl, TW_of 209 (by decide +kernel) (by decide +kernel)⟩
theorem fl_X3_15 : FL RX3 15 3 9 := ⟨_, rfl, by decide, rfl, TW_of 210 (by decide +kernel) (by decide +kernel)⟩
theorem fl_X3_37 : FL RX3 37 3 10 := ⟨_, rfl, by decide, rfl, TW_of 211 (by decide +kernel) (by decide +kernel)⟩
theorem cl_X6_29 : Cond.classLink RX6 29 RX1 ∈ TW := TW_of 235 (by decide +kernel) (by decide +kernel)
theorem cl_X6_35 : Cond.classLink RX6 35 RX2 ∈ TW := TW_of 237 (by decide +kernel) (by decide +kernel)
theorem ml_X1_3 : Cond.methodLink RX1 3 Lib.objectInit ∈ TW := TW_of 243 (by decide +kernel) (by decide +kernel)
theorem fl_X1_9 : FL RX1 9 1 0 := ⟨_, rfl, by decide, rfl, TW_of 244 (by decide +kernel) (by decide +kernel)⟩
theorem fl_X6_252 : FL RX6 252 1 0 := ⟨_, rfl, by decide, rfl, TW_of 245 (by decide +kernel) (by decide +kernel)⟩
theorem fl_X1_15 : FL RX1 15 1 1 := ⟨_, rfl, by decide, rfl, TW_of 246 (by decide +kernel) (by decide +kernel)⟩
theorem fl_X6_190 : FL RX6 190 1 1 := ⟨_, rfl, by decide, rfl, TW_of 247 (by decide +kernel) (by decide +kernel)⟩
theorem fl_X1_19 : FL RX1 19 1 2 := ⟨_, rfl, by decide, rfl, TW_of 248 (by decide +kernel) (by decide +kernel)⟩
theorem fl_X6_261 : FL RX6 261 1 2 := ⟨_, rfl, by decide, rfl, TW_of 249 (by decide +kernel) (by decide +kernel)⟩
theorem ml_X2_1 : Cond.methodLink RX2 1 Lib.objectInit ∈ TW := TW_of 261 (by decide +kernel) (by decide +kernel)
theorem cl_X2_7 : Cond.classLink RX2 7 RX0 ∈ TW := TW_of 262 (by decide +kernel) (by decide +kernel)
theorem cl_X2_16 : Cond.classLink RX2 16 RX1 ∈ TW := TW_of 264 (by decide +kernel) (by decide +kernel)
theorem fl_X6_277 : FL RX6 277 2 0 := ⟨_, rfl, by decide, rfl, TW_of 266 (by decide +kernel) (by decide +kernel)⟩
theorem fl_X2_10 : FL RX2 10 2 1 := ⟨_, rfl, by decide, rfl, TW_of 267 (by decide +kernel) (by decide +kernel)⟩
theorem fl_X6_280 : FL RX6 280 2 1 := ⟨_, rfl, by decide, rfl, TW_of 268 (by decide +kernel) (by decide +kernel)⟩
theorem fl_X2_19 : FL RX2 19 2 2 := ⟨_, rfl, by decide, rfl, TW_of 269 (by decide +kernel) (by decide +kernel)⟩
theorem fl_X6_287 : FL RX6 287 2 2 := ⟨_, rfl, by decide, rfl, TW_of 270 (by decide +kernel) (by decide +kernel)⟩
theorem fl_X6_293 : FL RX6 293 2 3 := ⟨_, rfl, by decide, rfl, TW_of 271 (by decide +kernel) (by decide +kernel)⟩
theorem fl_X6_10 : FL RX6 10 6 0 := ⟨_, rfl, by decide, rfl, TW_of 281 (by decide +kernel) (by decide +kernel)⟩
theorem fl_X6_16 : FL RX6 16 6 1 := ⟨_, rfl, by decide, rfl, TW_of 282 (by decide +kernel) (by decide +kernel)⟩
theorem fl_X6_19 : FL RX6 19 6 2 := ⟨_, rfl, by decide, rfl, TW_of 283 (by decide +kernel) (by decide +kernel)⟩
theorem fl_X6_300 : FL RX6 300 6 3 := ⟨_, rfl, by decide, rfl, TW_of 284 (by decide +kernel) (by decide +kernel)⟩
theorem fl_X6_25 : FL RX6 25 6 4 := ⟨_, rfl, by decide, rfl, TW_of 285 (by decide +kernel) (by decide +kernel)⟩
theorem fl_X6_31 : FL RX6 31 6 5 := ⟨_, rfl, by decide, rfl, TW_of 286 (by decide +kernel) (by decide +kernel)⟩
theorem fl_X6_37 : FL RX6 37 6 6 := ⟨_, rfl, by decide, rfl, TW_of 287 (by decide +kernel) (by decide +kernel)⟩
theorem fl_X6_41 : FL RX6 41 6 7 := ⟨_, rfl, by decide, rfl, TW_of 288 (by decide +kernel) (by decide +kernel)⟩
theorem fl_X6_297 : FL RX6 297 6 8 := ⟨_, rfl, by decide, rfl, TW_of 289 (by decide +kernel) (by decide +kernel)⟩
theorem fl_X6_45 : FL RX6 45 6 9 := ⟨_, rfl, by decide, rfl, TW_of 290 (by decide +kernel) (by decide +kernel)⟩
theorem ml_L_13 : Cond.methodLink RL 13 yX6_attic ∈ TW := TW_of 312 (by decide +kernel) (by decide +kernel)
theorem ml_X6_50 : Cond.methodLink RX6 50 yX6_within ∈ TW := TW_of 316 (by decide +kernel) (by decide +kernel)
theorem ml_X6_54 : Cond.methodLink RX6 54 yX6_isBearing ∈ TW := TW_of 319 (by decide +kernel) (by decide +kernel)
theorem cn_X6_58 : Cond.constant RX6 58 (-1000000001) ∈ TW := TW_of 322 (by decide +kernel) (by decide +kernel)
theorem ml_X6_59 : Cond.methodLink RX6 59 yX5_addAttic ∈ TW := TW_of 323 (by decide +kernel) (by decide +kernel)
theorem cn_X5_84 : Cond.constant RX5 84 (-1000000003) ∈ TW := TW_of 327 (by decide +kernel) (by decide +kernel)
theorem ml_X5_85 : Cond.methodLink RX5 85 yX0_renew ∈ TW := TW_of 328 (by decide +kernel) (by decide +kernel)
theorem ml_L_18 : Cond.methodLink RL 18 yX6_told ∈ TW := TW_of 332 (by decide +kernel) (by decide +kernel)
theorem ml_X6_63 : Cond.methodLink RX6 63 yX6_isAttic ∈ TW := TW_of 336 (by decide +kernel) (by decide +kernel)
theorem ml_X6_88 : Cond.methodLink RX6 88 yX5_wideOf ∈ TW := TW_of 340 (by decide +kernel) (by decide +kernel)
theorem ml_X5_126 : Cond.methodLink RX5 126 Lib.Math.min.name ∈ TW := TW_of 344 (by decide +kernel) (by decide +kernel)
theorem ml_X6_92 : Cond.methodLink RX6 92 yX5_seenBy ∈ TW := TW_of 347 (by decide +kernel) (by decide +kernel)
theorem ml_X5_133 : Cond.methodLink RX5 133 yX5_wideOf ∈ TW := TW_of 351 (by decide +kernel) (by decide +kernel)
theorem ml_X5_136 : Cond.methodLink RX5 136 yX5_hidingFrom ∈ TW := TW_of 352 (by decide +kernel) (by decide +kernel)
theorem cn_X5_132 : Cond.constant RX5 132 (11184810) ∈ TW := TW_of 356 (by decide +kernel) (by decide +kernel)
theorem ml_X5_139 : Cond.methodLink RX5 139 yX5_bearingOf ∈ TW := TW_of 357 (by decide +kernel) (by decide +kernel)
theorem ml_X6_95 : Cond.methodLink RX6 95 yX5_rentOf ∈ TW := TW_of 361 (by decide +kernel) (by decide +kernel)
theorem ml_X5_142 : Cond.methodLink RX5 142 yX5_seenBy ∈ TW := TW_of 365 (by decide +kernel) (by decide +kernel)
theorem ml_X5_154 : Cond.methodLink RX5 154 yX5_plainRentOf ∈ TW := TW_of 366 (by decide +kernel) (by decide +kernel)
theorem ml_X5_161 : Cond.methodLink RX5 161 yX5_textFor ∈ TW := TW_of 370 (by decide +kernel) (by decide +kernel)
theorem ml_X5_146 : Cond.methodLink RX5 146 yJ6_bitCount_0f7a4 ∈ TW := TW_of 375 (by decide +kernel) (by decide +kernel)
theorem cn_J6_265 : Cond.constant RJ6 265 (1431655765) ∈ TW := TW_of 378 (by decide +kernel) (by decide +kernel)
theorem cn_J6_266 : Cond.constant RJ6 266 (858993459) ∈ TW := TW_of 379 (by decide +kernel) (by decide +kernel)
theorem cn_J6_267 : Cond.constant RJ6 267 (252645135) ∈ TW := TW_of 380 (by decide +kernel) (by decide +kernel)
theorem ml_X5_165 : Cond.methodLink RX5 165 yX4_gives ∈ TW := TW_of 381 (by decide +kernel) (by decide +kernel)
theorem ml_X4_26 : Cond.methodLink RX4 26 yX4_joined ∈ TW := TW_of 385 (by decide +kernel) (by decide +kernel)
theorem ml_X6_133 : Cond.methodLink RX6 133 Lib.Math.min.name ∈ TW := TW_of 391 (by decide +kernel) (by decide +kernel)
theorem ml_X6_304 : Cond.methodLink RX6 304 Lib.Math.max.name ∈ TW := TW_of 392 (by decide +kernel) (by decide +kernel)
theorem ml_X5_158 : Cond.methodLink RX5 158 Lib.Math.max.name ∈ TW := TW_of 395 (by decide +kernel) (by decide +kernel)
theorem ml_L_23 : Cond.methodLink RL 23 yX6_as ∈ TW := TW_of 396 (by decide +kernel) (by decide +kernel)
theorem ml_X6_98 : Cond.methodLink RX6 98 yX0_isOf ∈ TW := TW_of 400 (by decide +kernel) (by decide +kernel)
theorem cn_X6_101 : Cond.constant RX6 101 (-1000000012) ∈ TW := TW_of 407 (by decide +kernel) (by decide +kernel)
theorem ml_L_27 : Cond.methodLink RL 27 yX6_turns ∈ TW := TW_of 408 (by decide +kernel) (by decide +kernel)
theorem ml_L_31 : Cond.methodLink RL 31 yX6_set ∈ TW := TW_of 412 (by decide +kernel) (by decide +kernel)
theorem ml_L_35 : Cond.methodLink RL 35 yX6_star ∈ TW := TW_of 416 (by decide +kernel) (by decide +kernel)
theorem ml_X6_102 : Cond.methodLink RX6 102 yX6_isStar ∈ TW := TW_of 420 (by decide +kernel) (by decide +kernel)
theorem ml_L_39 : Cond.methodLink RL 39 yX6_starOf ∈ TW := TW_of 423 (by decide +kernel) (by decide +kernel)
theorem ml_X6_111 : Cond.methodLink RX6 111 yX5_bearingOf ∈ TW := TW_of 427 (by decide +kernel) (by decide +kernel)
theorem ml_X6_115 : Cond.methodLink RX6 115 yX5_watchersOf ∈ TW := TW_of 428 (by decide +kernel) (by decide +kernel)
theorem ml_L_43 : Cond.methodLink RL 43 yX6_chimney ∈ TW := TW_of 432 (by decide +kernel) (by decide +kernel)
theorem ml_L_47 : Cond.methodLink RL 47 yX6_smokes ∈ TW := TW_of 436 (by decide +kernel) (by decide +kernel)
theorem ml_L_52 : Cond.methodLink RL 52 yX6_rule ∈ TW := TW_of 440 (by decide +kernel) (by decide +kernel)
theorem ml_L_56 : Cond.methodLink RL 56 yX6_deal ∈ TW := TW_of 444 (by decide +kernel) (by decide +kernel)
theorem ml_X6_139 : Cond.methodLink RX6 139 yX5_drawAttic ∈ TW := TW_of 448 (by decide +kernel) (by decide +kernel)
theorem ml_X5_89 : Cond.methodLink RX5 89 yX5_draw ∈ TW := TW_of 452 (by decide +kernel) (by decide +kernel)
theorem cn_X5_100 : Cond.constant RX5 100 (1103515245) ∈ TW := TW_of 456 (by decide +kernel) (by decide +kernel)
theorem ml_X5_93 : Cond.methodLink RX5 93 yX5_addAttic ∈ TW := TW_of 457 (by decide +kernel) (by decide +kernel)
theorem ml_L_60 : Cond.methodLink RL 60 yX6_seed ∈ TW := TW_of 458 (by decide +kernel) (by decide +kernel)
theorem ml_L_64 : Cond.methodLink RL 64 yX6_hours ∈ TW := TW_of 462 (by decide +kernel) (by decide +kernel)
theorem ml_X6_151 : Cond.methodLink RX6 151 yX5_passHour ∈ TW := TW_of 466 (by decide +kernel) (by decide +kernel)
theorem ml_X5_101 : Cond.methodLink RX5 101 yX5_rentOf ∈ TW := TW_of 470 (by decide +kernel) (by decide +kernel)
theorem ml_X5_105 : Cond.methodLink RX5 105 yX0_pay ∈ TW := TW_of 471 (by decide +kernel) (by decide +kernel)
theorem ml_X0_35 : Cond.methodLink RX0 35 Lib.Math.min.name ∈ TW := TW_of 475 (by decide +kernel) (by decide +kernel)
theorem ml_X5_109 : Cond.methodLink RX5 109 yX0_earn ∈ TW := TW_of 476 (by decide +kernel) (by decide +kernel)
theorem ml_L_68 : Cond.methodLink RL 68 yX6_town ∈ TW := TW_of 480 (by decide +kernel) (by decide +kernel)
theorem ml_X6_154 : Cond.methodLink RX6 154 yX5_owedByAll ∈ TW := TW_of 484 (by decide +kernel) (by decide +kernel)
theorem ml_X6_161 : Cond.methodLink RX6 161 yJ6_bitCount_0f7a4 ∈ TW := TW_of 488 (by decide +kernel) (by decide +kernel)
theorem ml_X6_166 : Cond.methodLink RX6 166 yX5_coinOfAll ∈ TW := TW_of 489 (by decide +kernel) (by decide +kernel)
theorem ml_X6_169 : Cond.methodLink RX6 169 yX5_dark ∈ TW := TW_of 493 (by decide +kernel) (by decide +kernel)
theorem ml_X6_172 : Cond.methodLink RX6 172 yX5_rentOfAll ∈ TW := TW_of 497 (by decide +kernel) (by decide +kernel)
theorem ml_L_72 : Cond.methodLink RL 72 yX6_cover ∈ TW := TW_of 501 (by decide +kernel) (by decide +kernel)
theorem ml_X6_175 : Cond.methodLink RX6 175 yX5_fewestFor ∈ TW := TW_of 505 (by decide +kernel) (by decide +kernel)
theorem cn_X5_145 : Cond.constant RX5 145 (-1000000005) ∈ TW := TW_of 509 (by decide +kernel) (by decide +kernel)
theorem ml_X5_151 : Cond.methodLink RX5 151 yX5_viewOf ∈ TW := TW_of 510 (by decide +kernel) (by decide +kernel)
theorem ml_L_76 : Cond.methodLink RL 76 yX6_behind ∈ TW := TW_of 514 (by decide +kernel) (by decide +kernel)
theorem ml_X6_178 : Cond.methodLink RX6 178 yX5_takeAfter ∈ TW := TW_of 518 (by decide +kernel) (by decide +kernel)
theorem ml_X5_53 : Cond.methodLink RX5 53 arraycopyName ∈ TW := TW_of 522 (by decide +kernel) (by decide +kernel)
theorem ml_X5_62 : Cond.methodLink RX5 62 yX0_takeAfter ∈ TW := TW_of 525 (by decide +kernel) (by decide +kernel)
theorem ml_L_80 : Cond.methodLink RL 80 yX6_debt ∈ TW := TW_of 529 (by decide +kernel) (by decide +kernel)
theorem cn_X6_182 : Cond.constant RX6 182 (-1000000005) ∈ TW := TW_of 533 (by decide +kernel) (by decide +kernel)
theorem ml_L_84 : Cond.methodLink RL 84 yX6_rises ∈ TW := TW_of 534 (by decide +kernel) (by decide +kernel)
theorem ml_L_88 : Cond.methodLink RL 88 yX6_turned ∈ TW := TW_of 538 (by decide +kernel) (by decide +kernel)
theorem ml_X6_183 : Cond.methodLink RX6 183 yX6_bestOf ∈ TW := TW_of 542 (by decide +kernel) (by decide +kernel)
theorem ml_X6_307 : Cond.methodLink RX6 307 yX5_choose ∈ TW := TW_of 546 (by decide +kernel) (by decide +kernel)
theorem ml_L_92 : Cond.methodLink RL 92 yX6_stands ∈ TW := TW_of 550 (by decide +kernel) (by decide +kernel)
theorem ml_L_96 : Cond.methodLink RL 96 yX6_becomes ∈ TW := TW_of 554 (by decide +kernel) (by decide +kernel)
theorem ml_L_100 : Cond.methodLink RL 100 yX6_like ∈ TW := TW_of 558 (by decide +kernel) (by decide +kernel)
theorem ml_X6_187 : Cond.methodLink RX6 187 yX6_isSheet ∈ TW := TW_of 562 (by decide +kernel) (by decide +kernel)
theorem cn_X6_193 : Cond.constant RX6 193 (-1000000011) ∈ TW := TW_of 565 (by decide +kernel) (by decide +kernel)
theorem ml_X6_194 : Cond.methodLink RX6 194 yX6_measureDifferences ∈ TW := TW_of 566 (by decide +kernel) (by decide +kernel)
theorem ml_X6_255 : Cond.methodLink RX6 255 yX1_hasNumber ∈ TW := TW_of 570 (by decide +kernel) (by decide +kernel)
theorem ml_X1_32 : Cond.methodLink RX1 32 yX1_hasPlace ∈ TW := TW_of 574 (by decide +kernel) (by decide +kernel)
theorem cn_X1_36 : Cond.constant RX1 36 (-1000000005) ∈ TW := TW_of 579 (by decide +kernel) (by decide +kernel)
theorem ml_X6_310 : Cond.methodLink RX6 310 Lib.Math.abs.name ∈ TW := TW_of 580 (by decide +kernel) (by decide +kernel)
theorem ml_L_104 : Cond.methodLink RL 104 yX6_fee ∈ TW := TW_of 583 (by decide +kernel) (by decide +kernel)
theorem ml_X6_198 : Cond.methodLink RX6 198 yX5_feeGives ∈ TW := TW_of 587 (by decide +kernel) (by decide +kernel)
theorem ml_X5_172 : Cond.methodLink RX5 172 yX5_owedByAll ∈ TW := TW_of 591 (by decide +kernel) (by decide +kernel)
theorem ml_L_109 : Cond.methodLink RL 109 yX6_fine ∈ TW := TW_of 592 (by decide +kernel) (by decide +kernel)
theorem ml_X6_201 : Cond.methodLink RX6 201 yX5_fineGives ∈ TW := TW_of 596 (by decide +kernel) (by decide +kernel)
theorem ml_L_113 : Cond.methodLink RL 113 yX6_feed ∈ TW := TW_of 600 (by decide +kernel) (by decide +kernel)
theorem cn_X6_207 : Cond.constant RX6 207 (-1000000003) ∈ TW := TW_of 604 (by decide +kernel) (by decide +kernel)
theorem ml_X6_208 : Cond.methodLink RX6 208 yX3_append ∈ TW := TW_of 605 (by decide +kernel) (by decide +kernel)
theorem ml_L_117 : Cond.methodLink RL 117 yX6_trim ∈ TW := TW_of 609 (by decide +kernel) (by decide +kernel)
theorem ml_L_121 : Cond.methodLink RL 121 yX6_text ∈ TW := TW_of 613 (by decide +kernel) (by decide +kernel)
theorem ml_X6_212 : Cond.methodLink RX6 212 yX3_readText ∈ TW := TW_of 617 (by decide +kernel) (by decide +kernel)
theorem ml_X3_40 : Cond.methodLink RX3 40 yX3_advance ∈ TW := TW_of 621 (by decide +kernel) (by decide +kernel)
theorem ml_X3_62 : Cond.methodLink RX3 62 yX3_sortAt ∈ TW := TW_of 625 (by decide +kernel) (by decide +kernel)
theorem ml_X3_43 : Cond.methodLink RX3 43 yX3_keyHere ∈ TW := TW_of 629 (by decide +kernel) (by decide +kernel)
theorem ml_X3_68 : Cond.methodLink RX3 68 yX3_isHere ∈ TW := TW_of 634 (by decide +kernel) (by decide +kernel)
theorem ml_X3_76 : Cond.methodLink RX3 76 yJ0_length_8abf5 ∈ TW := TW_of 638 (by decide +kernel) (by decide +kernel)
theorem ml_J0_335 : Cond.methodLink RJ0 335 yJ0_coder_7d493 ∈ TW := TW_of 642 (by decide +kernel) (by decide +kernel)
theorem ml_X3_80 : Cond.methodLink RX3 80 yJ0_charAt_5068e ∈ TW := TW_of 648 (by decide +kernel) (by decide +kernel)
theorem ml_J0_492 : Cond.methodLink RJ0 492 yJ0_isLatin1_aae02 ∈ TW := TW_of 652 (by decide +kernel) (by decide +kernel)
theorem ml_J0_495 : Cond.methodLink RJ0 495 yJ1_charAt_3b067 ∈ TW := TW_of 656 (by decide +kernel) (by decide +kernel)
theorem ml_J1_9 : Cond.methodLink RJ1 9 yJ0_checkIndex_df160 ∈ TW := TW_of 659 (by decide +kernel) (by decide +kernel)
theorem ml_J0_1059 : Cond.methodLink RJ0 1059 yJ3_checkIndex_8e157 ∈ TW := TW_of 664 (by decide +kernel) (by decide +kernel)
theorem ml_J0_498 : Cond.methodLink RJ0 498 yJ2_charAt_3b067 ∈ TW := TW_of 667 (by decide +kernel) (by decide +kernel)
theorem ml_J2_67 : Cond.methodLink RJ2 67 yJ2_checkIndex_2214a ∈ TW := TW_of 670 (by decide +kernel) (by decide +kernel)
theorem ml_J2_48 : Cond.methodLink RJ2 48 yJ2_length_9d52b ∈ TW := TW_of 673 (by decide +kernel) (by decide +kernel)
theorem ml_J2_414 : Cond.methodLink RJ2 414 yJ0_checkIndex_df160 ∈ TW := TW_of 676 (by decide +kernel) (by decide +kernel)
theorem ml_J2_71 : Cond.methodLink RJ2 71 yJ2_getChar_3b067 ∈ TW := TW_of 677 (by decide +kernel) (by decide +kernel)
theorem ml_X3_50 : Cond.methodLink RX3 50 yX3_readJoined ∈ TW := TW_of 688 (by decide +kernel) (by decide +kernel)
theorem ml_X3_84 : Cond.methodLink RX3 84 yX3_readPiece ∈ TW := TW_of 692 (by decide +kernel) (by decide +kernel)
theorem ml_X3_98 : Cond.methodLink RX3 98 yX3_numberHere ∈ TW := TW_of 696 (by decide +kernel) (by decide +kernel)
theorem ml_X3_101 : Cond.methodLink RX3 101 yX3_readLeaf ∈ TW := TW_of 700 (by decide +kernel) (by decide +kernel)
theorem ml_X3_94 : Cond.methodLink RX3 94 yX3_addStep ∈ TW := TW_of 704 (by decide +kernel) (by decide +kernel)
theorem ml_X3_104 : Cond.methodLink RX3 104 yX3_nameHere ∈ TW := TW_of 708 (by decide +kernel) (by decide +kernel)
theorem ml_X3_119 : Cond.methodLink RX3 119 yJ0_indexOf_0f7a4 ∈ TW := TW_of 715 (by decide +kernel) (by decide +kernel)
theorem ml_J0_633 : Cond.methodLink RJ0 633 yJ0_indexOf_7cf53 ∈ TW := TW_of 719 (by decide +kernel) (by decide +kernel)
theorem ml_J0_505 : Cond.methodLink RJ0 505 yJ0_length_8abf5 ∈ TW := TW_of 723 (by decide +kernel) (by decide +kernel)
theorem ml_J0_637 : Cond.methodLink RJ0 637 yJ1_indexOf_4cfef ∈ TW := TW_of 724 (by decide +kernel) (by decide +kernel)
theorem ml_J1_88 : Cond.methodLink RJ1 88 yJ1_canEncode_9a6ad ∈ TW := TW_of 727 (by decide +kernel) (by decide +kernel)
theorem ml_J1_92 : Cond.methodLink RJ1 92 Lib.Math.max.name ∈ TW := TW_of 730 (by decide +kernel) (by decide +kernel)
theorem ml_J1_38 : Cond.methodLink RJ1 38 Lib.Math.min.name ∈ TW := TW_of 731 (by decide +kernel) (by decide +kernel)
theorem ml_J1_95 : Cond.methodLink RJ1 95 yJ1_indexOfChar_4cfef ∈ TW := TW_of 732 (by decide +kernel) (by decide +kernel)
theorem ml_J0_640 : Cond.methodLink RJ0 640 yJ2_indexOf_4cfef ∈ TW := TW_of 735 (by decide +kernel) (by decide +kernel)
theorem ml_J2_224 : Cond.methodLink RJ2 224 Lib.Math.max.name ∈ TW := TW_of 738 (by decide +kernel) (by decide +kernel)
theorem ml_J2_183 : Cond.methodLink RJ2 183 Lib.Math.min.name ∈ TW := TW_of 739 (by decide +kernel) (by decide +kernel)
theorem cn_J2_227 : Cond.constant RJ2 227 (65536) ∈ TW := TW_of 740 (by decide +kernel) (by decide +kernel)
theorem ml_J2_228 : Cond.methodLink RJ2 228 yJ2_indexOfChar_4cfef ∈ TW := TW_of 741 (by decide +kernel) (by decide +kernel)
theorem ml_J2_96 : Cond.methodLink RJ2 96 yJ2_checkBoundsBeginEnd_d044e ∈ TW := TW_of 744 (by decide +kernel) (by decide +kernel)
theorem ml_J2_241 : Cond.methodLink RJ2 241 yJ0_checkBoundsBeginEnd_23922 ∈ TW := TW_of 747 (by decide +kernel) (by decide +kernel)
theorem ml_J0_1062 : Cond.methodLink RJ0 1062 yJ3_checkFromToIndex_8c36e ∈ TW := TW_of 750 (by decide +kernel) (by decide +kernel)
theorem ml_J2_244 : Cond.methodLink RJ2 244 yJ2_indexOfCharUnsafe_4cfef ∈ TW := TW_of 753 (by decide +kernel) (by decide +kernel)
theorem ml_J2_232 : Cond.methodLink RJ2 232 yJ2_indexOfSupplementary_4cfef ∈ TW := TW_of 756 (by decide +kernel) (by decide +kernel)
theorem ml_J2_164 : Cond.methodLink RJ2 164 yJ11_isValidCodePoint_9a6ad ∈ TW := TW_of 759 (by decide +kernel) (by decide +kernel)
theorem ml_J2_157 : Cond.methodLink RJ2 157 yJ11_highSurrogate_5068e ∈ TW := TW_of 762 (by decide +kernel) (by decide +kernel)
theorem cn_J11_110 : Cond.constant RJ11 110 (55232) ∈ TW := TW_of 765 (by decide +kernel) (by decide +kernel)
theorem ml_J2_161 : Cond.methodLink RJ2 161 yJ11_lowSurrogate_5068e ∈ TW := TW_of 766 (by decide +kernel) (by decide +kernel)
theorem cn_J11_76 : Cond.constant RJ11 76 (56320) ∈ TW := TW_of 769 (by decide +kernel) (by decide +kernel)
theorem ml_X3_88 : Cond.methodLink RX3 88 yX3_signHere ∈ TW := TW_of 770 (by decide +kernel) (by decide +kernel)
theorem ml_X3_107 : Cond.methodLink RX3 107 yX3_readNot ∈ TW := TW_of 774 (by decide +kernel) (by decide +kernel)
theorem ml_X3_110 : Cond.methodLink RX3 110 yX3_readOpen ∈ TW := TW_of 778 (by decide +kernel) (by decide +kernel)
theorem ml_X3_91 : Cond.methodLink RX3 91 yX3_rankOf ∈ TW := TW_of 782 (by decide +kernel) (by decide +kernel)
theorem cl_X3_54 : Cond.classLink RX3 54 RX4 ∈ TW := TW_of 785 (by decide +kernel) (by decide +kernel)
theorem ml_X3_56 : Cond.methodLink RX3 56 yX4_init ∈ TW := TW_of 787 (by decide +kernel) (by decide +kernel)
theorem ml_X4_1 : Cond.methodLink RX4 1 Lib.objectInit ∈ TW := TW_of 790 (by decide +kernel) (by decide +kernel)
theorem ml_X4_20 : Cond.methodLink RX4 20 arraycopyName ∈ TW := TW_of 791 (by decide +kernel) (by decide +kernel)
theorem fl_X4_7 : FL RX4 7 4 0 := ⟨_, rfl, by decide, rfl, TW_of 792 (by decide +kernel) (by decide +kernel)⟩
end
section
theorem fl_X5_97 : FL RX5 97 4 0 := ⟨_, rfl, by decide, rfl, TW_of 793 (by decide +kernel) (by decide +kernel)⟩
theorem fl_X6_230 : FL RX6 230 4 0 := ⟨_, rfl, by decide, rfl, TW_of 794 (by decide +kernel) (by decide +kernel)⟩
theorem fl_X4_13 : FL RX4 13 4 1 := ⟨_, rfl, by decide, rfl, TW_of 795 (by decide +kernel) (by decide +kernel)⟩
theorem fl_X6_235 : FL RX6 235 4 1 := ⟨_, rfl, by decide, rfl, TW_of 796 (by decide +kernel) (by decide +kernel)⟩
theorem fl_X4_16 : FL RX4 16 4 2 := ⟨_, rfl, by decide, rfl, TW_of 797 (by decide +kernel) (by decide +kernel)⟩
theorem ml_X6_219 : Cond.methodLink RX6 219 yX5_addText ∈ TW := TW_of 806 (by decide +kernel) (by decide +kernel)
theorem ml_L_125 : Cond.methodLink RL 125 yX6_textTold ∈ TW := TW_of 810 (by decide +kernel) (by decide +kernel)
theorem ml_L_129 : Cond.methodLink RL 129 yX6_why ∈ TW := TW_of 814 (by decide +kernel) (by decide +kernel)
theorem ml_L_133 : Cond.methodLink RL 133 yX6_sheet ∈ TW := TW_of 818 (by decide +kernel) (by decide +kernel)
theorem ml_X6_241 : Cond.methodLink RX6 241 yX1_renew ∈ TW := TW_of 822 (by decide +kernel) (by decide +kernel)
theorem cn_X6_245 : Cond.constant RX6 245 (-1000000014) ∈ TW := TW_of 826 (by decide +kernel) (by decide +kernel)
theorem ml_L_137 : Cond.methodLink RL 137 yX6_mark ∈ TW := TW_of 827 (by decide +kernel) (by decide +kernel)
theorem ml_X6_246 : Cond.methodLink RX6 246 yX1_hasPlace ∈ TW := TW_of 831 (by decide +kernel) (by decide +kernel)
theorem cn_X6_249 : Cond.constant RX6 249 (-1000000013) ∈ TW := TW_of 832 (by decide +kernel) (by decide +kernel)
theorem cn_X6_250 : Cond.constant RX6 250 (-99999) ∈ TW := TW_of 833 (by decide +kernel) (by decide +kernel)
theorem cn_X6_251 : Cond.constant RX6 251 (99999) ∈ TW := TW_of 834 (by decide +kernel) (by decide +kernel)
theorem ml_L_141 : Cond.methodLink RL 141 yX6_pour ∈ TW := TW_of 835 (by decide +kernel) (by decide +kernel)
theorem ml_X6_258 : Cond.methodLink RX6 258 yX6_held ∈ TW := TW_of 839 (by decide +kernel) (by decide +kernel)
theorem ml_L_145 : Cond.methodLink RL 145 yX6_reads ∈ TW := TW_of 840 (by decide +kernel) (by decide +kernel)
theorem ml_L_149 : Cond.methodLink RL 149 yX6_copy ∈ TW := TW_of 844 (by decide +kernel) (by decide +kernel)
theorem ml_X6_264 : Cond.methodLink RX6 264 yX1_hasPlaces ∈ TW := TW_of 848 (by decide +kernel) (by decide +kernel)
theorem ml_X6_268 : Cond.methodLink RX6 268 arraycopyName ∈ TW := TW_of 852 (by decide +kernel) (by decide +kernel)
theorem ml_L_154 : Cond.methodLink RL 154 yX6_lay ∈ TW := TW_of 853 (by decide +kernel) (by decide +kernel)
theorem ml_X6_274 : Cond.methodLink RX6 274 yX6_isSlot ∈ TW := TW_of 857 (by decide +kernel) (by decide +kernel)
theorem ml_X6_284 : Cond.methodLink RX6 284 yX0_takeAfter ∈ TW := TW_of 860 (by decide +kernel) (by decide +kernel)
theorem ml_X6_291 : Cond.methodLink RX6 291 yX1_takeAfter ∈ TW := TW_of 861 (by decide +kernel) (by decide +kernel)
theorem ml_X1_22 : Cond.methodLink RX1 22 arraycopyName ∈ TW := TW_of 865 (by decide +kernel) (by decide +kernel)
theorem ml_L_158 : Cond.methodLink RL 158 yX6_ask ∈ TW := TW_of 866 (by decide +kernel) (by decide +kernel)
theorem ml_L_162 : Cond.methodLink RL 162 yX6_item ∈ TW := TW_of 870 (by decide +kernel) (by decide +kernel)
theorem ml_L_166 : Cond.methodLink RL 166 yX6_rest ∈ TW := TW_of 874 (by decide +kernel) (by decide +kernel)
theorem cn_X6_296 : Cond.constant RX6 296 (-1000000002) ∈ TW := TW_of 878 (by decide +kernel) (by decide +kernel)
theorem ml_L_170 : Cond.methodLink RL 170 yX6_tell ∈ TW := TW_of 879 (by decide +kernel) (by decide +kernel)
theorem ml_L_174 : Cond.methodLink RL 174 yX6_check ∈ TW := TW_of 883 (by decide +kernel) (by decide +kernel)
theorem ml_L_178 : Cond.methodLink RL 178 yX6_keep ∈ TW := TW_of 887 (by decide +kernel) (by decide +kernel)
theorem ml_L_182 : Cond.methodLink RL 182 yX6_back ∈ TW := TW_of 891 (by decide +kernel) (by decide +kernel)
theorem ml_L_186 : Cond.methodLink RL 186 yX6_count ∈ TW := TW_of 895 (by decide +kernel) (by decide +kernel)
theorem cl_L_10 : Cond.classLink RL 10 RX7 ∈ TW := TW_of 899 (by decide +kernel) (by decide +kernel)
theorem ml_L_12 : Cond.methodLink RL 12 yX7_init ∈ TW := TW_of 901 (by decide +kernel) (by decide +kernel)
theorem ml_X7_1 : Cond.methodLink RX7 1 Lib.objectInit ∈ TW := TW_of 904 (by decide +kernel) (by decide +kernel)
theorem fl_X7_9 : FL RX7 9 7 0 := ⟨_, rfl, by decide, rfl, TW_of 905 (by decide +kernel) (by decide +kernel)⟩
theorem fl_X7_13 : FL RX7 13 7 1 := ⟨_, rfl, by decide, rfl, TW_of 906 (by decide +kernel) (by decide +kernel)⟩
theorem fl_X7_16 : FL RX7 16 7 2 := ⟨_, rfl, by decide, rfl, TW_of 907 (by decide +kernel) (by decide +kernel)⟩
theorem fl_X7_276 : FL RX7 276 7 3 := ⟨_, rfl, by decide, rfl, TW_of 908 (by decide +kernel) (by decide +kernel)⟩
theorem fl_X7_19 : FL RX7 19 7 4 := ⟨_, rfl, by decide, rfl, TW_of 909 (by decide +kernel) (by decide +kernel)⟩
theorem fl_X7_22 : FL RX7 22 7 5 := ⟨_, rfl, by decide, rfl, TW_of 910 (by decide +kernel) (by decide +kernel)⟩
theorem fl_X7_25 : FL RX7 25 7 6 := ⟨_, rfl, by decide, rfl, TW_of 911 (by decide +kernel) (by decide +kernel)⟩
theorem fl_X7_194 : FL RX7 194 7 7 := ⟨_, rfl, by decide, rfl, TW_of 912 (by decide +kernel) (by decide +kernel)⟩
theorem fl_X7_198 : FL RX7 198 7 8 := ⟨_, rfl, by decide, rfl, TW_of 913 (by decide +kernel) (by decide +kernel)⟩
theorem fl_X7_201 : FL RX7 201 7 9 := ⟨_, rfl, by decide, rfl, TW_of 914 (by decide +kernel) (by decide +kernel)⟩
theorem fl_X7_207 : FL RX7 207 7 10 := ⟨_, rfl, by decide, rfl, TW_of 915 (by decide +kernel) (by decide +kernel)⟩
theorem fl_X7_213 : FL RX7 213 7 11 := ⟨_, rfl, by decide, rfl, TW_of 916 (by decide +kernel) (by decide +kernel)⟩
theorem fl_X7_204 : FL RX7 204 7 12 := ⟨_, rfl, by decide, rfl, TW_of 917 (by decide +kernel) (by decide +kernel)⟩
theorem fl_X7_219 : FL RX7 219 7 13 := ⟨_, rfl, by decide, rfl, TW_of 918 (by decide +kernel) (by decide +kernel)⟩
theorem fl_X7_28 : FL RX7 28 7 14 := ⟨_, rfl, by decide, rfl, TW_of 919 (by decide +kernel) (by decide +kernel)⟩
theorem fl_X7_32 : FL RX7 32 7 15 := ⟨_, rfl, by decide, rfl, TW_of 920 (by decide +kernel) (by decide +kernel)⟩
theorem fl_X7_35 : FL RX7 35 7 16 := ⟨_, rfl, by decide, rfl, TW_of 921 (by decide +kernel) (by decide +kernel)⟩
theorem fl_X7_231 : FL RX7 231 7 17 := ⟨_, rfl, by decide, rfl, TW_of 922 (by decide +kernel) (by decide +kernel)⟩
theorem fl_X7_237 : FL RX7 237 7 18 := ⟨_, rfl, by decide, rfl, TW_of 923 (by decide +kernel) (by decide +kernel)⟩
theorem fl_X7_38 : FL RX7 38 7 19 := ⟨_, rfl, by decide, rfl, TW_of 924 (by decide +kernel) (by decide +kernel)⟩
theorem fl_X7_225 : FL RX7 225 7 20 := ⟨_, rfl, by decide, rfl, TW_of 925 (by decide +kernel) (by decide +kernel)⟩
theorem fl_X7_41 : FL RX7 41 7 21 := ⟨_, rfl, by decide, rfl, TW_of 926 (by decide +kernel) (by decide +kernel)⟩
theorem fl_X7_45 : FL RX7 45 7 22 := ⟨_, rfl, by decide, rfl, TW_of 927 (by decide +kernel) (by decide +kernel)⟩
theorem fl_X7_48 : FL RX7 48 7 23 := ⟨_, rfl, by decide, rfl, TW_of 928 (by decide +kernel) (by decide +kernel)⟩
theorem fl_X7_51 : FL RX7 51 7 24 := ⟨_, rfl, by decide, rfl, TW_of 929 (by decide +kernel) (by decide +kernel)⟩
theorem fl_X7_54 : FL RX7 54 7 25 := ⟨_, rfl, by decide, rfl, TW_of 930 (by decide +kernel) (by decide +kernel)⟩
theorem fl_X7_57 : FL RX7 57 7 26 := ⟨_, rfl, by decide, rfl, TW_of 931 (by decide +kernel) (by decide +kernel)⟩
theorem fl_X7_60 : FL RX7 60 7 27 := ⟨_, rfl, by decide, rfl, TW_of 932 (by decide +kernel) (by decide +kernel)⟩
theorem fl_X7_63 : FL RX7 63 7 28 := ⟨_, rfl, by decide, rfl, TW_of 933 (by decide +kernel) (by decide +kernel)⟩
theorem fl_X7_66 : FL RX7 66 7 29 := ⟨_, rfl, by decide, rfl, TW_of 934 (by decide +kernel) (by decide +kernel)⟩
theorem fl_X7_69 : FL RX7 69 7 30 := ⟨_, rfl, by decide, rfl, TW_of 935 (by decide +kernel) (by decide +kernel)⟩
theorem fl_X7_72 : FL RX7 72 7 31 := ⟨_, rfl, by decide, rfl, TW_of 936 (by decide +kernel) (by decide +kernel)⟩
theorem fl_X7_75 : FL RX7 75 7 32 := ⟨_, rfl, by decide, rfl, TW_of 937 (by decide +kernel) (by decide +kernel)⟩
theorem fl_X7_273 : FL RX7 273 7 33 := ⟨_, rfl, by decide, rfl, TW_of 938 (by decide +kernel) (by decide +kernel)⟩
theorem ml_L_17 : Cond.methodLink RL 17 yX7_attic ∈ TW := TW_of 1010 (by decide +kernel) (by decide +kernel)
theorem ml_X7_78 : Cond.methodLink RX7 78 yX7_in ∈ TW := TW_of 1014 (by decide +kernel) (by decide +kernel)
theorem ml_X7_123 : Cond.methodLink RX7 123 yX7_isBearing ∈ TW := TW_of 1017 (by decide +kernel) (by decide +kernel)
theorem cn_X7_127 : Cond.constant RX7 127 (-1000000001) ∈ TW := TW_of 1020 (by decide +kernel) (by decide +kernel)
theorem cn_X7_128 : Cond.constant RX7 128 (-1000000003) ∈ TW := TW_of 1021 (by decide +kernel) (by decide +kernel)
theorem ml_X7_129 : Cond.methodLink RX7 129 yX7_comes ∈ TW := TW_of 1022 (by decide +kernel) (by decide +kernel)
theorem ml_X7_119 : Cond.methodLink RX7 119 yX7_put ∈ TW := TW_of 1026 (by decide +kernel) (by decide +kernel)
theorem ml_L_22 : Cond.methodLink RL 22 yX7_told ∈ TW := TW_of 1030 (by decide +kernel) (by decide +kernel)
theorem ml_X7_132 : Cond.methodLink RX7 132 yX7_isAttic ∈ TW := TW_of 1034 (by decide +kernel) (by decide +kernel)
theorem ml_X7_86 : Cond.methodLink RX7 86 yX7_of ∈ TW := TW_of 1038 (by decide +kernel) (by decide +kernel)
theorem ml_X7_93 : Cond.methodLink RX7 93 yX7_wideOf ∈ TW := TW_of 1042 (by decide +kernel) (by decide +kernel)
theorem ml_X7_90 : Cond.methodLink RX7 90 yX7_wideBy ∈ TW := TW_of 1046 (by decide +kernel) (by decide +kernel)
theorem ml_X7_82 : Cond.methodLink RX7 82 yX7_within ∈ TW := TW_of 1050 (by decide +kernel) (by decide +kernel)
theorem ml_X7_104 : Cond.methodLink RX7 104 yX7_sees ∈ TW := TW_of 1053 (by decide +kernel) (by decide +kernel)
theorem ml_X7_97 : Cond.methodLink RX7 97 yX7_standsAt ∈ TW := TW_of 1057 (by decide +kernel) (by decide +kernel)
theorem ml_X7_100 : Cond.methodLink RX7 100 yX7_isHidden ∈ TW := TW_of 1061 (by decide +kernel) (by decide +kernel)
theorem ml_X7_135 : Cond.methodLink RX7 135 yX7_rentOf ∈ TW := TW_of 1065 (by decide +kernel) (by decide +kernel)
theorem ml_X7_107 : Cond.methodLink RX7 107 yX7_counts ∈ TW := TW_of 1069 (by decide +kernel) (by decide +kernel)
theorem ml_X7_110 : Cond.methodLink RX7 110 yX7_pricesOf ∈ TW := TW_of 1073 (by decide +kernel) (by decide +kernel)
theorem ml_X7_113 : Cond.methodLink RX7 113 yX7_bits ∈ TW := TW_of 1077 (by decide +kernel) (by decide +kernel)
theorem ml_X7_116 : Cond.methodLink RX7 116 yX7_worksOut ∈ TW := TW_of 1080 (by decide +kernel) (by decide +kernel)
theorem ml_X7_259 : Cond.methodLink RX7 259 yX7_two ∈ TW := TW_of 1084 (by decide +kernel) (by decide +kernel)
theorem ml_L_26 : Cond.methodLink RL 26 yX7_as ∈ TW := TW_of 1087 (by decide +kernel) (by decide +kernel)
theorem ml_X7_138 : Cond.methodLink RX7 138 yX7_isUnder ∈ TW := TW_of 1091 (by decide +kernel) (by decide +kernel)
theorem cn_X7_141 : Cond.constant RX7 141 (-1000000012) ∈ TW := TW_of 1094 (by decide +kernel) (by decide +kernel)
theorem ml_L_30 : Cond.methodLink RL 30 yX7_turns ∈ TW := TW_of 1095 (by decide +kernel) (by decide +kernel)
theorem ml_X7_142 : Cond.methodLink RX7 142 yX7_swaps ∈ TW := TW_of 1099 (by decide +kernel) (by decide +kernel)
theorem ml_L_34 : Cond.methodLink RL 34 yX7_set ∈ TW := TW_of 1103 (by decide +kernel) (by decide +kernel)
theorem ml_L_38 : Cond.methodLink RL 38 yX7_star ∈ TW := TW_of 1107 (by decide +kernel) (by decide +kernel)
theorem ml_X7_145 : Cond.methodLink RX7 145 yX7_isStar ∈ TW := TW_of 1111 (by decide +kernel) (by decide +kernel)
theorem ml_L_42 : Cond.methodLink RL 42 yX7_starOf ∈ TW := TW_of 1114 (by decide +kernel) (by decide +kernel)
theorem ml_X7_148 : Cond.methodLink RX7 148 yX7_seers ∈ TW := TW_of 1118 (by decide +kernel) (by decide +kernel)
theorem ml_L_46 : Cond.methodLink RL 46 yX7_chimney ∈ TW := TW_of 1122 (by decide +kernel) (by decide +kernel)
theorem ml_L_51 : Cond.methodLink RL 51 yX7_smokes ∈ TW := TW_of 1126 (by decide +kernel) (by decide +kernel)
theorem ml_L_55 : Cond.methodLink RL 55 yX7_rule ∈ TW := TW_of 1130 (by decide +kernel) (by decide +kernel)
theorem ml_L_59 : Cond.methodLink RL 59 yX7_deal ∈ TW := TW_of 1134 (by decide +kernel) (by decide +kernel)
theorem ml_X7_152 : Cond.methodLink RX7 152 yX7_draw ∈ TW := TW_of 1138 (by decide +kernel) (by decide +kernel)
theorem cn_X7_151 : Cond.constant RX7 151 (1103515245) ∈ TW := TW_of 1142 (by decide +kernel) (by decide +kernel)
theorem ml_L_63 : Cond.methodLink RL 63 yX7_seed ∈ TW := TW_of 1143 (by decide +kernel) (by decide +kernel)
theorem ml_L_67 : Cond.methodLink RL 67 yX7_hours ∈ TW := TW_of 1147 (by decide +kernel) (by decide +kernel)
theorem ml_X7_163 : Cond.methodLink RX7 163 yX7_goesOn ∈ TW := TW_of 1151 (by decide +kernel) (by decide +kernel)
theorem ml_X7_160 : Cond.methodLink RX7 160 yX7_hour ∈ TW := TW_of 1155 (by decide +kernel) (by decide +kernel)
theorem ml_X7_156 : Cond.methodLink RX7 156 yX7_pays ∈ TW := TW_of 1159 (by decide +kernel) (by decide +kernel)
theorem ml_L_71 : Cond.methodLink RL 71 yX7_town ∈ TW := TW_of 1163 (by decide +kernel) (by decide +kernel)
theorem ml_X7_166 : Cond.methodLink RX7 166 yX7_sumOf ∈ TW := TW_of 1167 (by decide +kernel) (by decide +kernel)
theorem ml_X7_169 : Cond.methodLink RX7 169 yX7_dark ∈ TW := TW_of 1171 (by decide +kernel) (by decide +kernel)
theorem ml_L_75 : Cond.methodLink RL 75 yX7_cover ∈ TW := TW_of 1175 (by decide +kernel) (by decide +kernel)
theorem cn_X7_172 : Cond.constant RX7 172 (-1000000005) ∈ TW := TW_of 1179 (by decide +kernel) (by decide +kernel)
theorem ml_L_79 : Cond.methodLink RL 79 yX7_behind ∈ TW := TW_of 1180 (by decide +kernel) (by decide +kernel)
theorem ml_X7_177 : Cond.methodLink RX7 177 yX7_thinks ∈ TW := TW_of 1184 (by decide +kernel) (by decide +kernel)
theorem ml_X7_173 : Cond.methodLink RX7 173 yX7_copyAll ∈ TW := TW_of 1188 (by decide +kernel) (by decide +kernel)
theorem ml_X7_180 : Cond.methodLink RX7 180 yX7_putsBack ∈ TW := TW_of 1191 (by decide +kernel) (by decide +kernel)
theorem ml_L_83 : Cond.methodLink RL 83 yX7_debt ∈ TW := TW_of 1195 (by decide +kernel) (by decide +kernel)
theorem ml_L_87 : Cond.methodLink RL 87 yX7_rises ∈ TW := TW_of 1199 (by decide +kernel) (by decide +kernel)
theorem ml_L_91 : Cond.methodLink RL 91 yX7_turned ∈ TW := TW_of 1203 (by decide +kernel) (by decide +kernel)
theorem ml_X7_183 : Cond.methodLink RX7 183 yX7_mostBy ∈ TW := TW_of 1207 (by decide +kernel) (by decide +kernel)
theorem ml_L_99 : Cond.methodLink RL 99 yX7_becomes ∈ TW := TW_of 1211 (by decide +kernel) (by decide +kernel)
theorem ml_L_95 : Cond.methodLink RL 95 yX7_stands ∈ TW := TW_of 1215 (by decide +kernel) (by decide +kernel)
theorem ml_L_103 : Cond.methodLink RL 103 yX7_like ∈ TW := TW_of 1219 (by decide +kernel) (by decide +kernel)
theorem ml_X7_187 : Cond.methodLink RX7 187 yX7_isSheet ∈ TW := TW_of 1223 (by decide +kernel) (by decide +kernel)
theorem cn_X7_190 : Cond.constant RX7 190 (-1000000011) ∈ TW := TW_of 1226 (by decide +kernel) (by decide +kernel)
theorem ml_X7_191 : Cond.methodLink RX7 191 yX7_off ∈ TW := TW_of 1227 (by decide +kernel) (by decide +kernel)
theorem ml_L_108 : Cond.methodLink RL 108 yX7_fee ∈ TW := TW_of 1230 (by decide +kernel) (by decide +kernel)
theorem ml_L_112 : Cond.methodLink RL 112 yX7_fine ∈ TW := TW_of 1234 (by decide +kernel) (by decide +kernel)
theorem ml_L_116 : Cond.methodLink RL 116 yX7_feed ∈ TW := TW_of 1238 (by decide +kernel) (by decide +kernel)
theorem ml_L_120 : Cond.methodLink RL 120 yX7_trim ∈ TW := TW_of 1242 (by decide +kernel) (by decide +kernel)
theorem ml_L_124 : Cond.methodLink RL 124 yX7_text ∈ TW := TW_of 1246 (by decide +kernel) (by decide +kernel)
theorem ml_X7_222 : Cond.methodLink RX7 222 yX7_go ∈ TW := TW_of 1250 (by decide +kernel) (by decide +kernel)
theorem ml_X7_210 : Cond.methodLink RX7 210 yX7_isLetter ∈ TW := TW_of 1254 (by decide +kernel) (by decide +kernel)
theorem ml_X7_216 : Cond.methodLink RX7 216 yX7_isFigure ∈ TW := TW_of 1258 (by decide +kernel) (by decide +kernel)
theorem ml_X7_253 : Cond.methodLink RX7 253 yX7_takesKey ∈ TW := TW_of 1262 (by decide +kernel) (by decide +kernel)
theorem ml_X7_256 : Cond.methodLink RX7 256 yX7_takesE ∈ TW := TW_of 1266 (by decide +kernel) (by decide +kernel)
theorem ml_X7_243 : Cond.methodLink RX7 243 yX7_takesPart ∈ TW := TW_of 1270 (by decide +kernel) (by decide +kernel)
theorem ml_X7_234 : Cond.methodLink RX7 234 yX7_nameOf ∈ TW := TW_of 1274 (by decide +kernel) (by decide +kernel)
theorem ml_X7_240 : Cond.methodLink RX7 240 yX7_settle ∈ TW := TW_of 1278 (by decide +kernel) (by decide +kernel)
theorem ml_X7_228 : Cond.methodLink RX7 228 yX7_rank ∈ TW := TW_of 1282 (by decide +kernel) (by decide +kernel)
theorem ml_X7_247 : Cond.methodLink RX7 247 yX7_notsOpen ∈ TW := TW_of 1285 (by decide +kernel) (by decide +kernel)
theorem ml_X7_250 : Cond.methodLink RX7 250 yX7_signHere ∈ TW := TW_of 1289 (by decide +kernel) (by decide +kernel)
theorem ml_L_128 : Cond.methodLink RL 128 yX7_textTold ∈ TW := TW_of 1293 (by decide +kernel) (by decide +kernel)
theorem ml_L_132 : Cond.methodLink RL 132 yX7_why ∈ TW := TW_of 1297 (by decide +kernel) (by decide +kernel)
theorem ml_L_136 : Cond.methodLink RL 136 yX7_sheet ∈ TW := TW_of 1301 (by decide +kernel) (by decide +kernel)
theorem cn_X7_262 : Cond.constant RX7 262 (-1000000014) ∈ TW := TW_of 1305 (by decide +kernel) (by decide +kernel)
theorem ml_L_140 : Cond.methodLink RL 140 yX7_mark ∈ TW := TW_of 1306 (by decide +kernel) (by decide +kernel)
theorem cn_X7_263 : Cond.constant RX7 263 (-1000000013) ∈ TW := TW_of 1310 (by decide +kernel) (by decide +kernel)
theorem cn_X7_264 : Cond.constant RX7 264 (-99999) ∈ TW := TW_of 1311 (by decide +kernel) (by decide +kernel)
theorem cn_X7_265 : Cond.constant RX7 265 (99999) ∈ TW := TW_of 1312 (by decide +kernel) (by decide +kernel)
theorem ml_L_144 : Cond.methodLink RL 144 yX7_pour ∈ TW := TW_of 1313 (by decide +kernel) (by decide +kernel)
theorem ml_L_148 : Cond.methodLink RL 148 yX7_reads ∈ TW := TW_of 1317 (by decide +kernel) (by decide +kernel)
theorem ml_L_153 : Cond.methodLink RL 153 yX7_copy ∈ TW := TW_of 1321 (by decide +kernel) (by decide +kernel)
theorem ml_L_157 : Cond.methodLink RL 157 yX7_lay ∈ TW := TW_of 1325 (by decide +kernel) (by decide +kernel)
theorem ml_X7_266 : Cond.methodLink RX7 266 yX7_isSlot ∈ TW := TW_of 1329 (by decide +kernel) (by decide +kernel)
theorem ml_X7_269 : Cond.methodLink RX7 269 yX7_worthOf ∈ TW := TW_of 1332 (by decide +kernel) (by decide +kernel)
theorem ml_L_161 : Cond.methodLink RL 161 yX7_ask ∈ TW := TW_of 1336 (by decide +kernel) (by decide +kernel)
theorem ml_L_165 : Cond.methodLink RL 165 yX7_item ∈ TW := TW_of 1340 (by decide +kernel) (by decide +kernel)
theorem ml_L_169 : Cond.methodLink RL 169 yX7_rest ∈ TW := TW_of 1344 (by decide +kernel) (by decide +kernel)
theorem cn_X7_272 : Cond.constant RX7 272 (-1000000002) ∈ TW := TW_of 1348 (by decide +kernel) (by decide +kernel)
theorem ml_L_173 : Cond.methodLink RL 173 yX7_tell ∈ TW := TW_of 1349 (by decide +kernel) (by decide +kernel)
theorem ml_L_177 : Cond.methodLink RL 177 yX7_check ∈ TW := TW_of 1353 (by decide +kernel) (by decide +kernel)
theorem ml_L_181 : Cond.methodLink RL 181 yX7_keep ∈ TW := TW_of 1357 (by decide +kernel) (by decide +kernel)
theorem ml_L_185 : Cond.methodLink RL 185 yX7_back ∈ TW := TW_of 1361 (by decide +kernel) (by decide +kernel)
theorem ml_L_189 : Cond.methodLink RL 189 yX7_count ∈ TW := TW_of 1365 (by decide +kernel) (by decide +kernel)
theorem nl_X5_52 : Cond.methodLinkNest RX5 52 yX0_init RX6 ∈ nestW := List.mem_of_getElem? (i := 0) rfl
theorem nl_X6_24 : Cond.methodLinkNest RX6 24 yX3_init RX6 ∈ nestW := List.mem_of_getElem? (i := 1) rfl
theorem nl_X6_48 : Cond.methodLinkNest RX6 48 yX1_init RX6 ∈ nestW := List.mem_of_getElem? (i := 2) rfl
theorem nl_X6_49 : Cond.methodLinkNest RX6 49 yX2_init RX6 ∈ nestW := List.mem_of_getElem? (i := 3) rfl
theorem nl_X2_9 : Cond.methodLinkNest RX2 9 yX0_init RX6 ∈ nestW := List.mem_of_getElem? (i := 4) rfl
theorem nl_X2_18 : Cond.methodLinkNest RX2 18 yX1_init RX6 ∈ nestW := List.mem_of_getElem? (i := 5) rfl
theorem nl_X5_113 : Cond.methodLinkNest RX5 113 yX6_within RX6 ∈ nestW := List.mem_of_getElem? (i := 6) rfl
theorem nl_X5_169 : Cond.methodLinkNest RX5 169 yX6_held RX6 ∈ nestW := List.mem_of_getElem? (i := 7) rfl
theorem nl_X0_27 : Cond.methodLinkNest RX0 27 yX6_within RX6 ∈ nestW := List.mem_of_getElem? (i := 8) rfl
theorem nl_X0_31 : Cond.fieldLinkNest RX0 31 RX6 "KIND_ABOVE" "[I" RX6 ∈ nestW := List.mem_of_getElem? (i := 9) rfl
theorem nl_X1_28 : Cond.methodLinkNest RX1 28 yX6_within RX6 ∈ nestW := List.mem_of_getElem? (i := 10) rfl
theorem ft_0_0 : FT 0 0 false .int := fun q h => by cases h; exact ⟨rfl, by decide +kernel⟩
theorem ft_0_1 : FT 0 1 false .int := fun q h => by cases h; exact ⟨rfl, by decide +kernel⟩
theorem ft_0_2 : FT 0 2 false .int := fun q h => by cases h; exact ⟨rfl, by decide +kernel⟩
theorem ft_0_3 : FT 0 3 false .int := fun q h => by cases h; exact ⟨rfl, by decide +kernel⟩
theorem ft_0_4 : FT 0 4 false .int := fun q h => by cases h; exact ⟨rfl, by decide +kernel⟩
theorem ft_1_0 : FT 1 0 true (.array .int) := fun q h => by cases h; exact ⟨rfl, by decide +kernel⟩
theorem ft_1_1 : FT 1 1 false .int := fun q h => by cases h; exact ⟨rfl, by decide +kernel⟩
theorem ft_1_2 : FT 1 2 false .int := fun q h => by cases h; exact ⟨rfl, by decide +kernel⟩
theorem ft_2_0 : FT 2 0 false .int := fun q h => by cases h; exact ⟨rfl, by decide +kernel⟩
theorem ft_2_1 : FT 2 1 true (.object "AtticStars$Attic") := fun q h => by cases h; exact ⟨rfl, by decide +kernel⟩
theorem ft_2_2 : FT 2 2 true (.object "AtticStars$Sheet") := fun q h => by cases h; exact ⟨rfl, by decide +kernel⟩
theorem ft_2_3 : FT 2 3 false .int := fun q h => by cases h; exact ⟨rfl, by decide +kernel⟩
theorem ft_3_0 : FT 3 0 true (.array .int) := fun q h => by cases h; exact ⟨rfl, by decide +kernel⟩
theorem ft_3_1 : FT 3 1 false .int := fun q h => by cases h; exact ⟨rfl, by decide +kernel⟩
theorem ft_3_2 : FT 3 2 false .int := fun q h => by cases h; exact ⟨rfl, by decide +kernel⟩
theorem ft_3_3 : FT 3 3 false .int := fun q h => by cases h; exact ⟨rfl, by decide +kernel⟩
theorem ft_3_4 : FT 3 4 false .int := fun q h => by cases h; exact ⟨rfl, by decide +kernel⟩
theorem ft_3_5 : FT 3 5 false .int := fun q h => by cases h; exact ⟨rfl, by decide +kernel⟩
theorem ft_3_6 : FT 3 6 false .int := fun q h => by cases h; exact ⟨rfl, by decide +kernel⟩
theorem ft_3_7 : FT 3 7 false .int := fun q h => by cases h; exact ⟨rfl, by decide +kernel⟩
theorem ft_3_8 : FT 3 8 false .int := fun q h => by cases h; exact ⟨rfl, by decide +kernel⟩
theorem ft_3_9 : FT 3 9 true (.array .int) := fun q h => by cases h; exact ⟨rfl, by decide +kernel⟩
theorem ft_3_10 : FT 3 10 false .int := fun q h => by cases h; exact ⟨rfl, by decide +kernel⟩
theorem ft_4_0 : FT 4 0 true .int := fun q h => by cases h; exact ⟨rfl, by decide +kernel⟩
theorem ft_4_1 : FT 4 1 true .int := fun q h => by cases h; exact ⟨rfl, by decide +kernel⟩
theorem ft_4_2 : FT 4 2 true (.array .int) := fun q h => by cases h; exact ⟨rfl, by decide +kernel⟩
theorem ft_5_0 : FT 5 0 true (.array .int) := fun q h => by cases h; exact ⟨rfl, by decide +kernel⟩
theorem ft_5_1 : FT 5 1 true (.array .int) := fun q h => by cases h; exact ⟨rfl, by decide +kernel⟩
theorem ft_5_2 : FT 5 2 true (.array (.object "AtticStars$Attic")) := fun q h => by cases h; exact ⟨rfl, by decide +kernel⟩
theorem ft_5_3 : FT 5 3 false .int := fun q h => by cases h; exact ⟨rfl, by decide +kernel⟩
theorem ft_5_4 : FT 5 4 false .int := fun q h => by cases h; exact ⟨rfl, by decide +kernel⟩
theorem ft_5_5 : FT 5 5 false .int := fun q h => by cases h; exact ⟨rfl, by decide +kernel⟩
theorem ft_5_6 : FT 5 6 false .int := fun q h => by cases h; exact ⟨rfl, by decide +kernel⟩
theorem ft_5_7 : FT 5 7 false .int := fun q h => by cases h; exact ⟨rfl, by decide +kernel⟩
theorem ft_5_8 : FT 5 8 false .int := fun q h => by cases h; exact ⟨rfl, by decide +kernel⟩
theorem ft_5_9 : FT 5 9 false .int := fun q h => by cases h; exact ⟨rfl, by decide +kernel⟩
theorem ft_5_10 : FT 5 10 false .int := fun q h => by cases h; exact ⟨rfl, by decide +kernel⟩
theorem ft_5_11 : FT 5 11 false .int := fun q h => by cases h; exact ⟨rfl, by decide +kernel⟩
theorem ft_5_12 : FT 5 12 true (.array (.object "AtticStars$Text")) := fun q h => by cases h; exact ⟨rfl, by decide +kernel⟩
theorem ft_5_13 : FT 5 13 false .int := fun q h => by cases h; exact ⟨rfl, by decide +kernel⟩
theorem ft_5_14 : FT 5 14 true (.array .int) := fun q h => by cases h; exact ⟨rfl, by decide +kernel⟩
theorem ft_5_15 : FT 5 15 true (.array .int) := fun q h => by cases h; exact ⟨rfl, by decide +kernel⟩
theorem ft_5_16 : FT 5 16 true (.array .int) := fun q h => by cases h; exact ⟨rfl, by decide +kernel⟩
theorem ft_5_17 : FT 5 17 true (.array .int) := fun q h => by cases h; exact ⟨rfl, by decide +kernel⟩
theorem ft_6_0 : FT 6 0 true (.object "AtticStars$Town") := fun q h => by cases h; exact ⟨rfl, by decide +kernel⟩
theorem ft_6_1 : FT 6 1 true (.object "AtticStars$Town") := fun q h => by cases h; exact ⟨rfl, by decide +kernel⟩
theorem ft_6_2 : FT 6 2 true (.object "AtticStars$Town") := fun q h => by cases h; exact ⟨rfl, by decide +kernel⟩
theorem ft_6_3 : FT 6 3 false .boolean := fun q h => by cases h; exact ⟨rfl, by decide +kernel⟩
theorem ft_6_4 : FT 6 4 true (.object "AtticStars$Tape") := fun q h => by cases h; exact ⟨rfl, by decide +kernel⟩
theorem ft_6_5 : FT 6 5 true (.array (.object "AtticStars$Sheet")) := fun q h => by cases h; exact ⟨rfl, by decide +kernel⟩
theorem ft_6_6 : FT 6 6 true (.array (.object "AtticStars$Slot")) := fun q h => by cases h; exact ⟨rfl, by decide +kernel⟩
theorem ft_6_7 : FT 6 7 true (.array .int) := fun q h => by cases h; exact ⟨rfl, by decide +kernel⟩
theorem ft_6_8 : FT 6 8 false .int := fun q h => by cases h; exact ⟨rfl, by decide +kernel⟩
theorem ft_6_9 : FT 6 9 true (.array .int) := fun q h => by cases h; exact ⟨rfl, by decide +kernel⟩
theorem ft_7_0 : FT 7 0 true (.array .int) := fun q h => by cases h; exact ⟨rfl, by decide +kernel⟩
theorem ft_7_1 : FT 7 1 true (.array .int) := fun q h => by cases h; exact ⟨rfl, by decide +kernel⟩
theorem ft_7_2 : FT 7 2 true (.array .int) := fun q h => by cases h; exact ⟨rfl, by decide +kernel⟩
theorem ft_7_3 : FT 7 3 false .boolean := fun q h => by cases h; exact ⟨rfl, by decide +kernel⟩
theorem ft_7_4 : FT 7 4 true (.array .int) := fun q h => by cases h; exact ⟨rfl, by decide +kernel⟩
theorem ft_7_5 : FT 7 5 true (.array .int) := fun q h => by cases h; exact ⟨rfl, by decide +kernel⟩
theorem ft_7_6 : FT 7 6 true (.array .int) := fun q h => by cases h; exact ⟨rfl, by decide +kernel⟩
theorem ft_7_7 : FT 7 7 false .int := fun q h => by cases h; exact ⟨rfl, by decide +kernel⟩
theorem ft_7_8 : FT 7 8 false .int := fun q h => by cases h; exact ⟨rfl, by decide +kernel⟩
theorem ft_7_9 : FT 7 9 false .int := fun q h => by cases h; exact ⟨rfl, by decide +kernel⟩
end
section
theorem ft_7_10 : FT 7 10 false .int := fun q h => by cases h; exact ⟨rfl, by decide +kernel⟩
theorem ft_7_11 : FT 7 11 false .int := fun q h => by cases h; exact ⟨rfl, by decide +kernel⟩
theorem ft_7_12 : FT 7 12 false .int := fun q h => by cases h; exact ⟨rfl, by decide +kernel⟩
theorem ft_7_13 : FT 7 13 false .int := fun q h => by cases h; exact ⟨rfl, by decide +kernel⟩
theorem ft_7_14 : FT 7 14 true (.array .char) := fun q h => by cases h; exact ⟨rfl, by decide +kernel⟩
theorem ft_7_15 : FT 7 15 true (.array .int) := fun q h => by cases h; exact ⟨rfl, by decide +kernel⟩
theorem ft_7_16 : FT 7 16 true (.array .int) := fun q h => by cases h; exact ⟨rfl, by decide +kernel⟩
theorem ft_7_17 : FT 7 17 false .int := fun q h => by cases h; exact ⟨rfl, by decide +kernel⟩
theorem ft_7_18 : FT 7 18 false .int := fun q h => by cases h; exact ⟨rfl, by decide +kernel⟩
theorem ft_7_19 : FT 7 19 true (.array .int) := fun q h => by cases h; exact ⟨rfl, by decide +kernel⟩
theorem ft_7_20 : FT 7 20 false .int := fun q h => by cases h; exact ⟨rfl, by decide +kernel⟩
theorem ft_7_21 : FT 7 21 true (.array .boolean) := fun q h => by cases h; exact ⟨rfl, by decide +kernel⟩
theorem ft_7_22 : FT 7 22 true (.array .int) := fun q h => by cases h; exact ⟨rfl, by decide +kernel⟩
theorem ft_7_23 : FT 7 23 true (.array .int) := fun q h => by cases h; exact ⟨rfl, by decide +kernel⟩
theorem ft_7_24 : FT 7 24 true (.array .int) := fun q h => by cases h; exact ⟨rfl, by decide +kernel⟩
theorem ft_7_25 : FT 7 25 true (.array .int) := fun q h => by cases h; exact ⟨rfl, by decide +kernel⟩
theorem ft_7_26 : FT 7 26 true (.array .int) := fun q h => by cases h; exact ⟨rfl, by decide +kernel⟩
theorem ft_7_27 : FT 7 27 true (.array .int) := fun q h => by cases h; exact ⟨rfl, by decide +kernel⟩
theorem ft_7_28 : FT 7 28 true (.array .int) := fun q h => by cases h; exact ⟨rfl, by decide +kernel⟩
theorem ft_7_29 : FT 7 29 true (.array .int) := fun q h => by cases h; exact ⟨rfl, by decide +kernel⟩
theorem ft_7_30 : FT 7 30 true (.array .int) := fun q h => by cases h; exact ⟨rfl, by decide +kernel⟩
theorem ft_7_31 : FT 7 31 true (.array .int) := fun q h => by cases h; exact ⟨rfl, by decide +kernel⟩
theorem ft_7_32 : FT 7 32 true (.array .int) := fun q h => by cases h; exact ⟨rfl, by decide +kernel⟩
theorem ft_7_33 : FT 7 33 false .int := fun q h => by cases h; exact ⟨rfl, by decide +kernel⟩
theorem mfX0_init : MFI fX0_init 0 := ⟨⟨TW_of 94 (by decide +kernel) (by decide +kernel), TW_of 59 (by decide +kernel) (by decide +kernel), ⟨by decide +kernel, by decide +kernel, by decide +kernel⟩, by decide⟩, TW_of 93 (by decide +kernel) (by decide +kernel), rfl, rfl⟩
theorem mfX0_renew : MFV fX0_renew 3 0 := ⟨⟨TW_of 331 (by decide +kernel) (by decide +kernel), TW_of 59 (by decide +kernel) (by decide +kernel), ⟨by decide +kernel, by decide +kernel, by decide +kernel⟩, by decide⟩, TW_of 329 (by decide +kernel) (by decide +kernel), TW_of 330 (by decide +kernel) (by decide +kernel), ⟨_, rfl, rfl⟩⟩
theorem mfX0_takeAfter : MFV fX0_takeAfter 1 0 := ⟨⟨TW_of 528 (by decide +kernel) (by decide +kernel), TW_of 59 (by decide +kernel) (by decide +kernel), ⟨by decide +kernel, by decide +kernel, by decide +kernel⟩, by decide⟩, TW_of 526 (by decide +kernel) (by decide +kernel), TW_of 527 (by decide +kernel) (by decide +kernel), ⟨_, rfl, rfl⟩⟩
theorem mfX0_isOf : MFV fX0_isOf 1 0 := ⟨⟨TW_of 403 (by decide +kernel) (by decide +kernel), TW_of 59 (by decide +kernel) (by decide +kernel), ⟨by decide +kernel, by decide +kernel, by decide +kernel⟩, by decide⟩, TW_of 401 (by decide +kernel) (by decide +kernel), TW_of 402 (by decide +kernel) (by decide +kernel), ⟨_, rfl, rfl⟩⟩
theorem mfX0_pay : MFV fX0_pay 1 0 := ⟨⟨TW_of 474 (by decide +kernel) (by decide +kernel), TW_of 59 (by decide +kernel) (by decide +kernel), ⟨by decide +kernel, by decide +kernel, by decide +kernel⟩, by decide⟩, TW_of 472 (by decide +kernel) (by decide +kernel), TW_of 473 (by decide +kernel) (by decide +kernel), ⟨_, rfl, rfl⟩⟩
theorem mfX0_earn : MFV fX0_earn 1 0 := ⟨⟨TW_of 479 (by decide +kernel) (by decide +kernel), TW_of 59 (by decide +kernel) (by decide +kernel), ⟨by decide +kernel, by decide +kernel, by decide +kernel⟩, by decide⟩, TW_of 477 (by decide +kernel) (by decide +kernel), TW_of 478 (by decide +kernel) (by decide +kernel), ⟨_, rfl, rfl⟩⟩
theorem mfX1_init : MFI fX1_init 0 := ⟨⟨TW_of 242 (by decide +kernel) (by decide +kernel), TW_of 61 (by decide +kernel) (by decide +kernel), ⟨by decide +kernel, by decide +kernel, by decide +kernel⟩, by decide⟩, TW_of 241 (by decide +kernel) (by decide +kernel), rfl, rfl⟩
theorem mfX1_renew : MFV fX1_renew 2 1 := ⟨⟨TW_of 825 (by decide +kernel) (by decide +kernel), TW_of 61 (by decide +kernel) (by decide +kernel), ⟨by decide +kernel, by decide +kernel, by decide +kernel⟩, by decide⟩, TW_of 823 (by decide +kernel) (by decide +kernel), TW_of 824 (by decide +kernel) (by decide +kernel), ⟨_, rfl, rfl⟩⟩
theorem mfX1_takeAfter : MFV fX1_takeAfter 1 1 := ⟨⟨TW_of 864 (by decide +kernel) (by decide +kernel), TW_of 61 (by decide +kernel) (by decide +kernel), ⟨by decide +kernel, by decide +kernel, by decide +kernel⟩, by decide⟩, TW_of 862 (by decide +kernel) (by decide +kernel), TW_of 863 (by decide +kernel) (by decide +kernel), ⟨_, rfl, rfl⟩⟩
theorem mfX1_hasPlace : MFV fX1_hasPlace 1 1 := ⟨⟨TW_of 577 (by decide +kernel) (by decide +kernel), TW_of 61 (by decide +kernel) (by decide +kernel), ⟨by decide +kernel, by decide +kernel, by decide +kernel⟩, by decide⟩, TW_of 575 (by decide +kernel) (by decide +kernel), TW_of 576 (by decide +kernel) (by decide +kernel), ⟨_, rfl, rfl⟩⟩
theorem mfX1_hasNumber : MFV fX1_hasNumber 1 1 := ⟨⟨TW_of 573 (by decide +kernel) (by decide +kernel), TW_of 61 (by decide +kernel) (by decide +kernel), ⟨by decide +kernel, by decide +kernel, by decide +kernel⟩, by decide⟩, TW_of 571 (by decide +kernel) (by decide +kernel), TW_of 572 (by decide +kernel) (by decide +kernel), ⟨_, rfl, rfl⟩⟩
theorem mfX1_hasPlaces : MFV fX1_hasPlaces 2 1 := ⟨⟨TW_of 851 (by decide +kernel) (by decide +kernel), TW_of 61 (by decide +kernel) (by decide +kernel), ⟨by decide +kernel, by decide +kernel, by decide +kernel⟩, by decide⟩, TW_of 849 (by decide +kernel) (by decide +kernel), TW_of 850 (by decide +kernel) (by decide +kernel), ⟨_, rfl, rfl⟩⟩
theorem mfX2_init : MFI fX2_init 0 := ⟨⟨TW_of 260 (by decide +kernel) (by decide +kernel), TW_of 62 (by decide +kernel) (by decide +kernel), ⟨by decide +kernel, by decide +kernel, by decide +kernel⟩, by decide⟩, TW_of 259 (by decide +kernel) (by decide +kernel), rfl, rfl⟩
theorem mfX3_init : MFI fX3_init 0 := ⟨⟨TW_of 197 (by decide +kernel) (by decide +kernel), TW_of 60 (by decide +kernel) (by decide +kernel), ⟨by decide +kernel, by decide +kernel, by decide +kernel⟩, by decide⟩, TW_of 196 (by decide +kernel) (by decide +kernel), rfl, rfl⟩
theorem mfX3_append : MFV fX3_append 1 3 := ⟨⟨TW_of 608 (by decide +kernel) (by decide +kernel), TW_of 60 (by decide +kernel) (by decide +kernel), ⟨by decide +kernel, by decide +kernel, by decide +kernel⟩, by decide⟩, TW_of 606 (by decide +kernel) (by decide +kernel), TW_of 607 (by decide +kernel) (by decide +kernel), ⟨_, rfl, rfl⟩⟩
theorem mfX3_readText : MFV fX3_readText 0 3 := ⟨⟨TW_of 620 (by decide +kernel) (by decide +kernel), TW_of 60 (by decide +kernel) (by decide +kernel), ⟨by decide +kernel, by decide +kernel, by decide +kernel⟩, by decide⟩, TW_of 618 (by decide +kernel) (by decide +kernel), TW_of 619 (by decide +kernel) (by decide +kernel), ⟨_, rfl, rfl⟩⟩
theorem mfX3_advance : MFV fX3_advance 0 3 := ⟨⟨TW_of 624 (by decide +kernel) (by decide +kernel), TW_of 60 (by decide +kernel) (by decide +kernel), ⟨by decide +kernel, by decide +kernel, by decide +kernel⟩, by decide⟩, TW_of 623 (by decide +kernel) (by decide +kernel), TW_of 8 (by decide +kernel) (by decide +kernel), ⟨_, rfl, rfl⟩⟩
theorem mfX3_sortAt : MFV fX3_sortAt 1 3 := ⟨⟨TW_of 628 (by decide +kernel) (by decide +kernel), TW_of 60 (by decide +kernel) (by decide +kernel), ⟨by decide +kernel, by decide +kernel, by decide +kernel⟩, by decide⟩, TW_of 627 (by decide +kernel) (by decide +kernel), TW_of 9 (by decide +kernel) (by decide +kernel), ⟨_, rfl, rfl⟩⟩
theorem mfX3_signHere : MFV fX3_signHere 0 3 := ⟨⟨TW_of 773 (by decide +kernel) (by decide +kernel), TW_of 60 (by decide +kernel) (by decide +kernel), ⟨by decide +kernel, by decide +kernel, by decide +kernel⟩, by decide⟩, TW_of 772 (by decide +kernel) (by decide +kernel), TW_of 18 (by decide +kernel) (by decide +kernel), ⟨_, rfl, rfl⟩⟩
theorem mfX3_keyHere : MFV fX3_keyHere 0 3 := ⟨⟨TW_of 632 (by decide +kernel) (by decide +kernel), TW_of 60 (by decide +kernel) (by decide +kernel), ⟨by decide +kernel, by decide +kernel, by decide +kernel⟩, by decide⟩, TW_of 631 (by decide +kernel) (by decide +kernel), TW_of 10 (by decide +kernel) (by decide +kernel), ⟨_, rfl, rfl⟩⟩
theorem mfX3_isHere : MFV fX3_isHere 1 3 := ⟨⟨TW_of 637 (by decide +kernel) (by decide +kernel), TW_of 60 (by decide +kernel) (by decide +kernel), ⟨by decide +kernel, by decide +kernel, by decide +kernel⟩, by decide⟩, TW_of 636 (by decide +kernel) (by decide +kernel), TW_of 11 (by decide +kernel) (by decide +kernel), ⟨_, rfl, rfl⟩⟩
theorem mfX3_readJoined : MFV fX3_readJoined 1 3 := ⟨⟨TW_of 691 (by decide +kernel) (by decide +kernel), TW_of 60 (by decide +kernel) (by decide +kernel), ⟨by decide +kernel, by decide +kernel, by decide +kernel⟩, by decide⟩, TW_of 690 (by decide +kernel) (by decide +kernel), TW_of 12 (by decide +kernel) (by decide +kernel), ⟨_, rfl, rfl⟩⟩
theorem mfX3_rankOf : MFS fX3_rankOf 1 := ⟨⟨TW_of 784 (by decide +kernel) (by decide +kernel), TW_of 60 (by decide +kernel) (by decide +kernel), ⟨by decide +kernel, by decide +kernel, by decide +kernel⟩, by decide⟩, TW_of 783 (by decide +kernel) (by decide +kernel)⟩
theorem mfX3_readPiece : MFV fX3_readPiece 0 3 := ⟨⟨TW_of 695 (by decide +kernel) (by decide +kernel), TW_of 60 (by decide +kernel) (by decide +kernel), ⟨by decide +kernel, by decide +kernel, by decide +kernel⟩, by decide⟩, TW_of 694 (by decide +kernel) (by decide +kernel), TW_of 13 (by decide +kernel) (by decide +kernel), ⟨_, rfl, rfl⟩⟩
theorem mfX3_readLeaf : MFV fX3_readLeaf 1 3 := ⟨⟨TW_of 703 (by decide +kernel) (by decide +kernel), TW_of 60 (by decide +kernel) (by decide +kernel), ⟨by decide +kernel, by decide +kernel, by decide +kernel⟩, by decide⟩, TW_of 702 (by decide +kernel) (by decide +kernel), TW_of 15 (by decide +kernel) (by decide +kernel), ⟨_, rfl, rfl⟩⟩
theorem mfX3_readNot : MFV fX3_readNot 0 3 := ⟨⟨TW_of 777 (by decide +kernel) (by decide +kernel), TW_of 60 (by decide +kernel) (by decide +kernel), ⟨by decide +kernel, by decide +kernel, by decide +kernel⟩, by decide⟩, TW_of 776 (by decide +kernel) (by decide +kernel), TW_of 19 (by decide +kernel) (by decide +kernel), ⟨_, rfl, rfl⟩⟩
theorem mfX3_readOpen : MFV fX3_readOpen 0 3 := ⟨⟨TW_of 781 (by decide +kernel) (by decide +kernel), TW_of 60 (by decide +kernel) (by decide +kernel), ⟨by decide +kernel, by decide +kernel, by decide +kernel⟩, by decide⟩, TW_of 780 (by decide +kernel) (by decide +kernel), TW_of 20 (by decide +kernel) (by decide +kernel), ⟨_, rfl, rfl⟩⟩
theorem mfX3_numberHere : MFV fX3_numberHere 0 3 := ⟨⟨TW_of 699 (by decide +kernel) (by decide +kernel), TW_of 60 (by decide +kernel) (by decide +kernel), ⟨by decide +kernel, by decide +kernel, by decide +kernel⟩, by decide⟩, TW_of 698 (by decide +kernel) (by decide +kernel), TW_of 14 (by decide +kernel) (by decide +kernel), ⟨_, rfl, rfl⟩⟩
theorem mfX3_nameHere : MFV fX3_nameHere 0 3 := ⟨⟨TW_of 711 (by decide +kernel) (by decide +kernel), TW_of 60 (by decide +kernel) (by decide +kernel), ⟨by decide +kernel, by decide +kernel, by decide +kernel⟩, by decide⟩, TW_of 710 (by decide +kernel) (by decide +kernel), TW_of 17 (by decide +kernel) (by decide +kernel), ⟨_, rfl, rfl⟩⟩
theorem mfX3_addStep : MFV fX3_addStep 1 3 := ⟨⟨TW_of 707 (by decide +kernel) (by decide +kernel), TW_of 60 (by decide +kernel) (by decide +kernel), ⟨by decide +kernel, by decide +kernel, by decide +kernel⟩, by decide⟩, TW_of 706 (by decide +kernel) (by decide +kernel), TW_of 16 (by decide +kernel) (by decide +kernel), ⟨_, rfl, rfl⟩⟩
theorem mfX4_init : MFI fX4_init 4 := ⟨⟨TW_of 789 (by decide +kernel) (by decide +kernel), TW_of 66 (by decide +kernel) (by decide +kernel), ⟨by decide +kernel, by decide +kernel, by decide +kernel⟩, by decide⟩, TW_of 788 (by decide +kernel) (by decide +kernel), rfl, rfl⟩
theorem mfX4_gives : MFV fX4_gives 2 4 := ⟨⟨TW_of 384 (by decide +kernel) (by decide +kernel), TW_of 66 (by decide +kernel) (by decide +kernel), ⟨by decide +kernel, by decide +kernel, by decide +kernel⟩, by decide⟩, TW_of 382 (by decide +kernel) (by decide +kernel), TW_of 383 (by decide +kernel) (by decide +kernel), ⟨_, rfl, rfl⟩⟩
theorem mfX4_joined : MFS fX4_joined 3 := ⟨⟨TW_of 387 (by decide +kernel) (by decide +kernel), TW_of 66 (by decide +kernel) (by decide +kernel), ⟨by decide +kernel, by decide +kernel, by decide +kernel⟩, by decide⟩, TW_of 386 (by decide +kernel) (by decide +kernel)⟩
theorem mfX5_init : MFI fX5_init 0 := ⟨⟨TW_of 85 (by decide +kernel) (by decide +kernel), TW_of 58 (by decide +kernel) (by decide +kernel), ⟨by decide +kernel, by decide +kernel, by decide +kernel⟩, by decide⟩, TW_of 84 (by decide +kernel) (by decide +kernel), rfl, rfl⟩
theorem mfX5_takeAfter : MFV fX5_takeAfter 1 5 := ⟨⟨TW_of 521 (by decide +kernel) (by decide +kernel), TW_of 58 (by decide +kernel) (by decide +kernel), ⟨by decide +kernel, by decide +kernel, by decide +kernel⟩, by decide⟩, TW_of 519 (by decide +kernel) (by decide +kernel), TW_of 520 (by decide +kernel) (by decide +kernel), ⟨_, rfl, rfl⟩⟩
theorem mfX5_addAttic : MFV fX5_addAttic 3 5 := ⟨⟨TW_of 326 (by decide +kernel) (by decide +kernel), TW_of 58 (by decide +kernel) (by decide +kernel), ⟨by decide +kernel, by decide +kernel, by decide +kernel⟩, by decide⟩, TW_of 324 (by decide +kernel) (by decide +kernel), TW_of 325 (by decide +kernel) (by decide +kernel), ⟨_, rfl, rfl⟩⟩
theorem mfX5_drawAttic : MFV fX5_drawAttic 0 5 := ⟨⟨TW_of 451 (by decide +kernel) (by decide +kernel), TW_of 58 (by decide +kernel) (by decide +kernel), ⟨by decide +kernel, by decide +kernel, by decide +kernel⟩, by decide⟩, TW_of 449 (by decide +kernel) (by decide +kernel), TW_of 450 (by decide +kernel) (by decide +kernel), ⟨_, rfl, rfl⟩⟩
theorem mfX5_addText : MFV fX5_addText 1 5 := ⟨⟨TW_of 809 (by decide +kernel) (by decide +kernel), TW_of 58 (by decide +kernel) (by decide +kernel), ⟨by decide +kernel, by decide +kernel, by decide +kernel⟩, by decide⟩, TW_of 807 (by decide +kernel) (by decide +kernel), TW_of 808 (by decide +kernel) (by decide +kernel), ⟨_, rfl, rfl⟩⟩
theorem mfX5_draw : MFV fX5_draw 0 5 := ⟨⟨TW_of 455 (by decide +kernel) (by decide +kernel), TW_of 58 (by decide +kernel) (by decide +kernel), ⟨by decide +kernel, by decide +kernel, by decide +kernel⟩, by decide⟩, TW_of 454 (by decide +kernel) (by decide +kernel), TW_of 4 (by decide +kernel) (by decide +kernel), ⟨_, rfl, rfl⟩⟩
theorem mfX5_passHour : MFV fX5_passHour 0 5 := ⟨⟨TW_of 469 (by decide +kernel) (by decide +kernel), TW_of 58 (by decide +kernel) (by decide +kernel), ⟨by decide +kernel, by decide +kernel, by decide +kernel⟩, by decide⟩, TW_of 467 (by decide +kernel) (by decide +kernel), TW_of 468 (by decide +kernel) (by decide +kernel), ⟨_, rfl, rfl⟩⟩
theorem mfX5_choose : MFV fX5_choose 3 5 := ⟨⟨TW_of 549 (by decide +kernel) (by decide +kernel), TW_of 58 (by decide +kernel) (by decide +kernel), ⟨by decide +kernel, by decide +kernel, by decide +kernel⟩, by decide⟩, TW_of 547 (by decide +kernel) (by decide +kernel), TW_of 548 (by decide +kernel) (by decide +kernel), ⟨_, rfl, rfl⟩⟩
theorem mfX5_bearingOf : MFV fX5_bearingOf 1 5 := ⟨⟨TW_of 360 (by decide +kernel) (by decide +kernel), TW_of 58 (by decide +kernel) (by decide +kernel), ⟨by decide +kernel, by decide +kernel, by decide +kernel⟩, by decide⟩, TW_of 358 (by decide +kernel) (by decide +kernel), TW_of 359 (by decide +kernel) (by decide +kernel), ⟨_, rfl, rfl⟩⟩
theorem mfX5_wideOf : MFV fX5_wideOf 1 5 := ⟨⟨TW_of 343 (by decide +kernel) (by decide +kernel), TW_of 58 (by decide +kernel) (by decide +kernel), ⟨by decide +kernel, by decide +kernel, by decide +kernel⟩, by decide⟩, TW_of 341 (by decide +kernel) (by decide +kernel), TW_of 342 (by decide +kernel) (by decide +kernel), ⟨_, rfl, rfl⟩⟩
theorem mfX5_hidingFrom : MFV fX5_hidingFrom 1 5 := ⟨⟨TW_of 355 (by decide +kernel) (by decide +kernel), TW_of 58 (by decide +kernel) (by decide +kernel), ⟨by decide +kernel, by decide +kernel, by decide +kernel⟩, by decide⟩, TW_of 354 (by decide +kernel) (by decide +kernel), TW_of 1 (by decide +kernel) (by decide +kernel), ⟨_, rfl, rfl⟩⟩
theorem mfX5_seenBy : MFV fX5_seenBy 1 5 := ⟨⟨TW_of 350 (by decide +kernel) (by decide +kernel), TW_of 58 (by decide +kernel) (by decide +kernel), ⟨by decide +kernel, by decide +kernel, by decide +kernel⟩, by decide⟩, TW_of 348 (by decide +kernel) (by decide +kernel), TW_of 349 (by decide +kernel) (by decide +kernel), ⟨_, rfl, rfl⟩⟩
theorem mfX5_watchersOf : MFV fX5_watchersOf 1 5 := ⟨⟨TW_of 431 (by decide +kernel) (by decide +kernel), TW_of 58 (by decide +kernel) (by decide +kernel), ⟨by decide +kernel, by decide +kernel, by decide +kernel⟩, by decide⟩, TW_of 429 (by decide +kernel) (by decide +kernel), TW_of 430 (by decide +kernel) (by decide +kernel), ⟨_, rfl, rfl⟩⟩
theorem mfX5_dark : MFV fX5_dark 0 5 := ⟨⟨TW_of 496 (by decide +kernel) (by decide +kernel), TW_of 58 (by decide +kernel) (by decide +kernel), ⟨by decide +kernel, by decide +kernel, by decide +kernel⟩, by decide⟩, TW_of 494 (by decide +kernel) (by decide +kernel), TW_of 495 (by decide +kernel) (by decide +kernel), ⟨_, rfl, rfl⟩⟩
theorem mfX5_fewestFor : MFV fX5_fewestFor 1 5 := ⟨⟨TW_of 508 (by decide +kernel) (by decide +kernel), TW_of 58 (by decide +kernel) (by decide +kernel), ⟨by decide +kernel, by decide +kernel, by decide +kernel⟩, by decide⟩, TW_of 506 (by decide +kernel) (by decide +kernel), TW_of 507 (by decide +kernel) (by decide +kernel), ⟨_, rfl, rfl⟩⟩
theorem mfX5_viewOf : MFV fX5_viewOf 1 5 := ⟨⟨TW_of 513 (by decide +kernel) (by decide +kernel), TW_of 58 (by decide +kernel) (by decide +kernel), ⟨by decide +kernel, by decide +kernel, by decide +kernel⟩, by decide⟩, TW_of 512 (by decide +kernel) (by decide +kernel), TW_of 5 (by decide +kernel) (by decide +kernel), ⟨_, rfl, rfl⟩⟩
theorem mfX5_rentOf : MFV fX5_rentOf 1 5 := ⟨⟨TW_of 364 (by decide +kernel) (by decide +kernel), TW_of 58 (by decide +kernel) (by decide +kernel), ⟨by decide +kernel, by decide +kernel, by decide +kernel⟩, by decide⟩, TW_of 362 (by decide +kernel) (by decide +kernel), TW_of 363 (by decide +kernel) (by decide +kernel), ⟨_, rfl, rfl⟩⟩
theorem mfX5_plainRentOf : MFV fX5_plainRentOf 2 5 := ⟨⟨TW_of 369 (by decide +kernel) (by decide +kernel), TW_of 58 (by decide +kernel) (by decide +kernel), ⟨by decide +kernel, by decide +kernel, by decide +kernel⟩, by decide⟩, TW_of 368 (by decide +kernel) (by decide +kernel), TW_of 2 (by decide +kernel) (by decide +kernel), ⟨_, rfl, rfl⟩⟩
theorem mfX5_feeGives : MFV fX5_feeGives 0 5 := ⟨⟨TW_of 590 (by decide +kernel) (by decide +kernel), TW_of 58 (by decide +kernel) (by decide +kernel), ⟨by decide +kernel, by decide +kernel, by decide +kernel⟩, by decide⟩, TW_of 588 (by decide +kernel) (by decide +kernel), TW_of 589 (by decide +kernel) (by decide +kernel), ⟨_, rfl, rfl⟩⟩
theorem mfX5_fineGives : MFV fX5_fineGives 1 5 := ⟨⟨TW_of 599 (by decide +kernel) (by decide +kernel), TW_of 58 (by decide +kernel) (by decide +kernel), ⟨by decide +kernel, by decide +kernel, by decide +kernel⟩, by decide⟩, TW_of 597 (by decide +kernel) (by decide +kernel), TW_of 598 (by decide +kernel) (by decide +kernel), ⟨_, rfl, rfl⟩⟩
theorem mfX5_textFor : MFV fX5_textFor 1 5 := ⟨⟨TW_of 373 (by decide +kernel) (by decide +kernel), TW_of 58 (by decide +kernel) (by decide +kernel), ⟨by decide +kernel, by decide +kernel, by decide +kernel⟩, by decide⟩, TW_of 372 (by decide +kernel) (by decide +kernel), TW_of 3 (by decide +kernel) (by decide +kernel), ⟨_, rfl, rfl⟩⟩
theorem mfX5_owedByAll : MFV fX5_owedByAll 0 5 := ⟨⟨TW_of 487 (by decide +kernel) (by decide +kernel), TW_of 58 (by decide +kernel) (by decide +kernel), ⟨by decide +kernel, by decide +kernel, by decide +kernel⟩, by decide⟩, TW_of 485 (by decide +kernel) (by decide +kernel), TW_of 486 (by decide +kernel) (by decide +kernel), ⟨_, rfl, rfl⟩⟩
theorem mfX5_coinOfAll : MFV fX5_coinOfAll 0 5 := ⟨⟨TW_of 492 (by decide +kernel) (by decide +kernel), TW_of 58 (by decide +kernel) (by decide +kernel), ⟨by decide +kernel, by decide +kernel, by decide +kernel⟩, by decide⟩, TW_of 490 (by decide +kernel) (by decide +kernel), TW_of 491 (by decide +kernel) (by decide +kernel), ⟨_, rfl, rfl⟩⟩
theorem mfX5_rentOfAll : MFV fX5_rentOfAll 0 5 := ⟨⟨TW_of 500 (by decide +kernel) (by decide +kernel), TW_of 58 (by decide +kernel) (by decide +kernel), ⟨by decide +kernel, by decide +kernel, by decide +kernel⟩, by decide⟩, TW_of 498 (by decide +kernel) (by decide +kernel), TW_of 499 (by decide +kernel) (by decide +kernel), ⟨_, rfl, rfl⟩⟩
theorem mfX6_init : MFI fX6_init 0 := ⟨⟨TW_of 77 (by decide +kernel) (by decide +kernel), TW_of 57 (by decide +kernel) (by decide +kernel), ⟨by decide +kernel, by decide +kernel, by decide +kernel⟩, by decide⟩, TW_of 76 (by decide +kernel) (by decide +kernel), rfl, rfl⟩
theorem mfX6_attic : MFV fX6_attic 3 6 := ⟨⟨TW_of 315 (by decide +kernel) (by decide +kernel), TW_of 57 (by decide +kernel) (by decide +kernel), ⟨by decide +kernel, by decide +kernel, by decide +kernel⟩, by decide⟩, TW_of 313 (by decide +kernel) (by decide +kernel), TW_of 314 (by decide +kernel) (by decide +kernel), ⟨_, rfl, rfl⟩⟩
theorem mfX6_told : MFV fX6_told 2 6 := ⟨⟨TW_of 335 (by decide +kernel) (by decide +kernel), TW_of 57 (by decide +kernel) (by decide +kernel), ⟨by decide +kernel, by decide +kernel, by decide +kernel⟩, by decide⟩, TW_of 333 (by decide +kernel) (by decide +kernel), TW_of 334 (by decide +kernel) (by decide +kernel), ⟨_, rfl, rfl⟩⟩
theorem mfX6_as : MFV fX6_as 2 6 := ⟨⟨TW_of 399 (by decide +kernel) (by decide +kernel), TW_of 57 (by decide +kernel) (by decide +kernel), ⟨by decide +kernel, by decide +kernel, by decide +kernel⟩, by decide⟩, TW_of 397 (by decide +kernel) (by decide +kernel), TW_of 398 (by decide +kernel) (by decide +kernel), ⟨_, rfl, rfl⟩⟩
theorem mfX6_turns : MFV fX6_turns 2 6 := ⟨⟨TW_of 411 (by decide +kernel) (by decide +kernel), TW_of 57 (by decide +kernel) (by decide +kernel), ⟨by decide +kernel, by decide +kernel, by decide +kernel⟩, by decide⟩, TW_of 409 (by decide +kernel) (by decide +kernel), TW_of 410 (by decide +kernel) (by decide +kernel), ⟨_, rfl, rfl⟩⟩
theorem mfX6_set : MFV fX6_set 3 6 := ⟨⟨TW_of 415 (by decide +kernel) (by decide +kernel), TW_of 57 (by decide +kernel) (by decide +kernel), ⟨by decide +kernel, by decide +kernel, by decide +kernel⟩, by decide⟩, TW_of 413 (by decide +kernel) (by decide +kernel), TW_of 414 (by decide +kernel) (by decide +kernel), ⟨_, rfl, rfl⟩⟩
theorem mfX6_star : MFV fX6_star 3 6 := ⟨⟨TW_of 419 (by decide +kernel) (by decide +kernel), TW_of 57 (by decide +kernel) (by decide +kernel), ⟨by decide +kernel, by decide +kernel, by decide +kernel⟩, by decide⟩, TW_of 417 (by decide +kernel) (by decide +kernel), TW_of 418 (by decide +kernel) (by decide +kernel), ⟨_, rfl, rfl⟩⟩
theorem mfX6_starOf : MFV fX6_starOf 2 6 := ⟨⟨TW_of 426 (by decide +kernel) (by decide +kernel), TW_of 57 (by decide +kernel) (by decide +kernel), ⟨by decide +kernel, by decide +kernel, by decide +kernel⟩, by decide⟩, TW_of 424 (by decide +kernel) (by decide +kernel), TW_of 425 (by decide +kernel) (by decide +kernel), ⟨_, rfl, rfl⟩⟩
theorem mfX6_chimney : MFV fX6_chimney 2 6 := ⟨⟨TW_of 435 (by decide +kernel) (by decide +kernel), TW_of 57 (by decide +kernel) (by decide +kernel), ⟨by decide +kernel, by decide +kernel, by decide +kernel⟩, by decide⟩, TW_of 433 (by decide +kernel) (by decide +kernel), TW_of 434 (by decide +kernel) (by decide +kernel), ⟨_, rfl, rfl⟩⟩
theorem mfX6_smokes : MFV fX6_smokes 1 6 := ⟨⟨TW_of 439 (by decide +kernel) (by decide +kernel), TW_of 57 (by decide +kernel) (by decide +kernel), ⟨by decide +kernel, by decide +kernel, by decide +kernel⟩, by decide⟩, TW_of 437 (by decide +kernel) (by decide +kernel), TW_of 438 (by decide +kernel) (by decide +kernel), ⟨_, rfl, rfl⟩⟩
theorem mfX6_rule : MFV fX6_rule 2 6 := ⟨⟨TW_of 443 (by decide +kernel) (by decide +kernel), TW_of 57 (by decide +kernel) (by decide +kernel), ⟨by decide +kernel, by decide +kernel, by decide +kernel⟩, by decide⟩, TW_of 441 (by decide +kernel) (by decide +kernel), TW_of 442 (by decide +kernel) (by decide +kernel), ⟨_, rfl, rfl⟩⟩
theorem mfX6_deal : MFV fX6_deal 1 6 := ⟨⟨TW_of 447 (by decide +kernel) (by decide +kernel), TW_of 57 (by decide +kernel) (by decide +kernel), ⟨by decide +kernel, by decide +kernel, by decide +kernel⟩, by decide⟩, TW_of 445 (by decide +kernel) (by decide +kernel), TW_of 446 (by decide +kernel) (by decide +kernel), ⟨_, rfl, rfl⟩⟩
theorem mfX6_seed : MFV fX6_seed 1 6 := ⟨⟨TW_of 461 (by decide +kernel) (by decide +kernel), TW_of 57 (by decide +kernel) (by decide +kernel), ⟨by decide +kernel, by decide +kernel, by decide +kernel⟩, by decide⟩, TW_of 459 (by decide +kernel) (by decide +kernel), TW_of 460 (by decide +kernel) (by decide +kernel), ⟨_, rfl, rfl⟩⟩
theorem mfX6_hours : MFV fX6_hours 1 6 := ⟨⟨TW_of 465 (by decide +kernel) (by decide +kernel), TW_of 57 (by decide +kernel) (by decide +kernel), ⟨by decide +kernel, by decide +kernel, by decide +kernel⟩, by decide⟩, TW_of 463 (by decide +kernel) (by decide +kernel), TW_of 464 (by decide +kernel) (by decide +kernel), ⟨_, rfl, rfl⟩⟩
theorem mfX6_town : MFV fX6_town 1 6 := ⟨⟨TW_of 483 (by decide +kernel) (by decide +kernel), TW_of 57 (by decide +kernel) (by decide +kernel), ⟨by decide +kernel, by decide +kernel, by decide +kernel⟩, by decide⟩, TW_of 481 (by decide +kernel) (by decide +kernel), TW_of 482 (by decide +kernel) (by decide +kernel), ⟨_, rfl, rfl⟩⟩
theorem mfX6_cover : MFV fX6_cover 1 6 := ⟨⟨TW_of 504 (by decide +kernel) (by decide +kernel), TW_of 57 (by decide +kernel) (by decide +kernel), ⟨by decide +kernel, by decide +kernel, by decide +kernel⟩, by decide⟩, TW_of 502 (by decide +kernel) (by decide +kernel), TW_of 503 (by decide +kernel) (by decide +kernel), ⟨_, rfl, rfl⟩⟩
theorem mfX6_behind : MFV fX6_behind 2 6 := ⟨⟨TW_of 517 (by decide +kernel) (by decide +kernel), TW_of 57 (by decide +kernel) (by decide +kernel), ⟨by decide +kernel, by decide +kernel, by decide +kernel⟩, by decide⟩, TW_of 515 (by decide +kernel) (by decide +kernel), TW_of 516 (by decide +kernel) (by decide +kernel), ⟨_, rfl, rfl⟩⟩
theorem mfX6_debt : MFV fX6_debt 2 6 := ⟨⟨TW_of 532 (by decide +kernel) (by decide +kernel), TW_of 57 (by decide +kernel) (by decide +kernel), ⟨by decide +kernel, by decide +kernel, by decide +kernel⟩, by decide⟩, TW_of 530 (by decide +kernel) (by decide +kernel), TW_of 531 (by decide +kernel) (by decide +kernel), ⟨_, rfl, rfl⟩⟩
theorem mfX6_rises : MFV fX6_rises 2 6 := ⟨⟨TW_of 537 (by decide +kernel) (by decide +kernel), TW_of 57 (by decide +kernel) (by decide +kernel), ⟨by decide +kernel, by decide +kernel, by decide +kernel⟩, by decide⟩, TW_of 535 (by decide +kernel) (by decide +kernel), TW_of 536 (by decide +kernel) (by decide +kernel), ⟨_, rfl, rfl⟩⟩
theorem mfX6_turned : MFV fX6_turned 3 6 := ⟨⟨TW_of 541 (by decide +kernel) (by decide +kernel), TW_of 57 (by decide +kernel) (by decide +kernel), ⟨by decide +kernel, by decide +kernel, by decide +kernel⟩, by decide⟩, TW_of 539 (by decide +kernel) (by decide +kernel), TW_of 540 (by decide +kernel) (by decide +kernel), ⟨_, rfl, rfl⟩⟩
theorem mfX6_stands : MFV fX6_stands 2 6 := ⟨⟨TW_of 553 (by decide +kernel) (by decide +kernel), TW_of 57 (by decide +kernel) (by decide +kernel), ⟨by decide +kernel, by decide +kernel, by decide +kernel⟩, by decide⟩, TW_of 551 (by decide +kernel) (by decide +kernel), TW_of 552 (by decide +kernel) (by decide +kernel), ⟨_, rfl, rfl⟩⟩
theorem mfX6_becomes : MFV fX6_becomes 3 6 := ⟨⟨TW_of 557 (by decide +kernel) (by decide +kernel), TW_of 57 (by decide +kernel) (by decide +kernel), ⟨by decide +kernel, by decide +kernel, by decide +kernel⟩, by decide⟩, TW_of 555 (by decide +kernel) (by decide +kernel), TW_of 556 (by decide +kernel) (by decide +kernel), ⟨_, rfl, rfl⟩⟩
theorem mfX6_like : MFV fX6_like 2 6 := ⟨⟨TW_of 561 (by decide +kernel) (by decide +kernel), TW_of 57 (by decide +kernel) (by decide +kernel), ⟨by decide +kernel, by decide +kernel, by decide +kernel⟩, by decide⟩, TW_of 559 (by decide +kernel) (by decide +kernel), TW_of 560 (by decide +kernel) (by decide +kernel), ⟨_, rfl, rfl⟩⟩
theorem mfX6_fee : MFV fX6_fee 0 6 := ⟨⟨TW_of 586 (by decide +kernel) (by decide +kernel), TW_of 57 (by decide +kernel) (by decide +kernel), ⟨by decide +kernel, by decide +kernel, by decide +kernel⟩, by decide⟩, TW_of 584 (by decide +kernel) (by decide +kernel), TW_of 585 (by decide +kernel) (by decide +kernel), ⟨_, rfl, rfl⟩⟩
theorem mfX6_fine : MFV fX6_fine 1 6 := ⟨⟨TW_of 595 (by decide +kernel) (by decide +kernel), TW_of 57 (by decide +kernel) (by decide +kernel), ⟨by decide +kernel, by decide +kernel, by decide +kernel⟩, by decide⟩, TW_of 593 (by decide +kernel) (by decide +kernel), TW_of 594 (by decide +kernel) (by decide +kernel), ⟨_, rfl, rfl⟩⟩
theorem mfX6_feed : MFV fX6_feed 3 6 := ⟨⟨TW_of 603 (by decide +kernel) (by decide +kernel), TW_of 57 (by decide +kernel) (by decide +kernel), ⟨by decide +kernel, by decide +kernel, by decide +kernel⟩, by decide⟩, TW_of 601 (by decide +kernel) (by decide +kernel), TW_of 602 (by decide +kernel) (by decide +kernel), ⟨_, rfl, rfl⟩⟩
theorem mfX6_trim : MFV fX6_trim 1 6 := ⟨⟨TW_of 612 (by decide +kernel) (by decide +kernel), TW_of 57 (by decide +kernel) (by decide +kernel), ⟨by decide +kernel, by decide +kernel, by decide +kernel⟩, by decide⟩, TW_of 610 (by decide +kernel) (by decide +kernel), TW_of 611 (by decide +kernel) (by decide +kernel), ⟨_, rfl, rfl⟩⟩
theorem mfX6_text : MFV fX6_text 0 6 := ⟨⟨TW_of 616 (by decide +kernel) (by decide +kernel), TW_of 57 (by decide +kernel) (by decide +kernel), ⟨by decide +kernel, by decide +kernel, by decide +kernel⟩, by decide⟩, TW_of 614 (by decide +kernel) (by decide +kernel), TW_of 615 (by decide +kernel) (by decide +kernel), ⟨_, rfl, rfl⟩⟩
theorem mfX6_textTold : MFV fX6_textTold 2 6 := ⟨⟨TW_of 813 (by decide +kernel) (by decide +kernel), TW_of 57 (by decide +kernel) (by decide +kernel), ⟨by decide +kernel, by decide +kernel, by decide +kernel⟩, by decide⟩, TW_of 811 (by decide +kernel) (by decide +kernel), TW_of 812 (by decide +kernel) (by decide +kernel), ⟨_, rfl, rfl⟩⟩
theorem mfX6_why : MFV fX6_why 1 6 := ⟨⟨TW_of 817 (by decide +kernel) (by decide +kernel), TW_of 57 (by decide +kernel) (by decide +kernel), ⟨by decide +kernel, by decide +kernel, by decide +kernel⟩, by decide⟩, TW_of 815 (by decide +kernel) (by decide +kernel), TW_of 816 (by decide +kernel) (by decide +kernel), ⟨_, rfl, rfl⟩⟩
theorem mfX6_sheet : MFV fX6_sheet 3 6 := ⟨⟨TW_of 821 (by decide +kernel) (by decide +kernel), TW_of 57 (by decide +kernel) (by decide +kernel), ⟨by decide +kernel, by decide +kernel, by decide +kernel⟩, by decide⟩, TW_of 819 (by decide +kernel) (by decide +kernel), TW_of 820 (by decide +kernel) (by decide +kernel), ⟨_, rfl, rfl⟩⟩
theorem mfX6_mark : MFV fX6_mark 3 6 := ⟨⟨TW_of 830 (by decide +kernel) (by decide +kernel), TW_of 57 (by decide +kernel) (by decide +kernel), ⟨by decide +kernel, by decide +kernel, by decide +kernel⟩, by decide⟩, TW_of 828 (by decide +kernel) (by decide +kernel), TW_of 829 (by decide +kernel) (by decide +kernel), ⟨_, rfl, rfl⟩⟩
theorem mfX6_pour : MFV fX6_pour 1 6 := ⟨⟨TW_of 838 (by decide +kernel) (by decide +kernel), TW_of 57 (by decide +kernel) (by decide +kernel), ⟨by decide +kernel, by decide +kernel, by decide +kernel⟩, by decide⟩, TW_of 836 (by decide +kernel) (by decide +kernel), TW_of 837 (by decide +kernel) (by decide +kernel), ⟨_, rfl, rfl⟩⟩
theorem mfX6_reads : MFV fX6_reads 1 6 := ⟨⟨TW_of 843 (by decide +kernel) (by decide +kernel), TW_of 57 (by decide +kernel) (by decide +kernel), ⟨by decide +kernel, by decide +kernel, by decide +kernel⟩, by decide⟩, TW_of 841 (by decide +kernel) (by decide +kernel), TW_of 842 (by decide +kernel) (by decide +kernel), ⟨_, rfl, rfl⟩⟩
theorem mfX6_copy : MFV fX6_copy 5 6 := ⟨⟨TW_of 847 (by decide +kernel) (by decide +kernel), TW_of 57 (by decide +kernel) (by decide +kernel), ⟨by decide +kernel, by decide +kernel, by decide +kernel⟩, by decide⟩, TW_of 845 (by decide +kernel) (by decide +kernel), TW_of 846 (by decide +kernel) (by decide +kernel), ⟨_, rfl, rfl⟩⟩
theorem mfX6_lay : MFV fX6_lay 3 6 := ⟨⟨TW_of 856 (by decide +kernel) (by decide +kernel), TW_of 57 (by decide +kernel) (by decide +kernel), ⟨by decide +kernel, by decide +kernel, by decide +kernel⟩, by decide⟩, TW_of 854 (by decide +kernel) (by decide +kernel), TW_of 855 (by decide +kernel) (by decide +kernel), ⟨_, rfl, rfl⟩⟩
theorem mfX6_ask : MFV fX6_ask 2 6 := ⟨⟨TW_of 869 (by decide +kernel) (by decide +kernel), TW_of 57 (by decide +kernel) (by decide +kernel), ⟨by decide +kernel, by decide +kernel, by decide +kernel⟩, by decide⟩, TW_of 867 (by decide +kernel) (by decide +kernel), TW_of 868 (by decide +kernel) (by decide +kernel), ⟨_, rfl, rfl⟩⟩
theorem mfX6_item : MFV fX6_item 2 6 := ⟨⟨TW_of 873 (by decide +kernel) (by decide +kernel), TW_of 57 (by decide +kernel) (by decide +kernel), ⟨by decide +kernel, by decide +kernel, by decide +kernel⟩, by decide⟩, TW_of 871 (by decide +kernel) (by decide +kernel), TW_of 872 (by decide +kernel) (by decide +kernel), ⟨_, rfl, rfl⟩⟩
theorem mfX6_rest : MFV fX6_rest 2 6 := ⟨⟨TW_of 877 (by decide +kernel) (by decide +kernel), TW_of 57 (by decide +kernel) (by decide +kernel), ⟨by decide +kernel, by decide +kernel, by decide +kernel⟩, by decide⟩, TW_of 875 (by decide +kernel) (by decide +kernel), TW_of 876 (by decide +kernel) (by decide +kernel), ⟨_, rfl, rfl⟩⟩
theorem mfX6_tell : MFV fX6_tell 1 6 := ⟨⟨TW_of 882 (by decide +kernel) (by decide +kernel), TW_of 57 (by decide +kernel) (by decide +kernel), ⟨by decide +kernel, by decide +kernel, by decide +kernel⟩, by decide⟩, TW_of 880 (by decide +kernel) (by decide +kernel), TW_of 881 (by decide +kernel) (by decide +kernel), ⟨_, rfl, rfl⟩⟩
theorem mfX6_check : MFV fX6_check 1 6 := ⟨⟨TW_of 886 (by decide +kernel) (by decide +kernel), TW_of 57 (by decide +kernel) (by decide +kernel), ⟨by decide +kernel, by decide +kernel, by decide +kernel⟩, by decide⟩, TW_of 884 (by decide +kernel) (by decide +kernel), TW_of 885 (by decide +kernel) (by decide +kernel), ⟨_, rfl, rfl⟩⟩
theorem mfX6_keep : MFV fX6_keep 0 6 := ⟨⟨TW_of 890 (by decide +kernel) (by decide +kernel), TW_of 57 (by decide +kernel) (by decide +kernel), ⟨by decide +kernel, by decide +kernel, by decide +kernel⟩, by decide⟩, TW_of 888 (by decide +kernel) (by decide +kernel), TW_of 889 (by decide +kernel) (by decide +kernel), ⟨_, rfl, rfl⟩⟩
theorem mfX6_back : MFV fX6_back 0 6 := ⟨⟨TW_of 894 (by decide +kernel) (by decide +kernel), TW_of 57 (by decide +kernel) (by decide +kernel), ⟨by decide +kernel, by decide +kernel, by decide +kernel⟩, by decide⟩, TW_of 892 (by decide +kernel) (by decide +kernel), TW_of 893 (by decide +kernel) (by decide +kernel), ⟨_, rfl, rfl⟩⟩
theorem mfX6_count : MFV fX6_count 1 6 := ⟨⟨TW_of 898 (by decide +kernel) (by decide +kernel), TW_of 57 (by decide +kernel) (by decide +kernel), ⟨by decide +kernel, by decide +kernel, by decide +kernel⟩, by decide⟩, TW_of 896 (by decide +kernel) (by decide +kernel), TW_of 897 (by decide +kernel) (by decide +kernel), ⟨_, rfl, rfl⟩⟩
theorem mfX6_within : MFS fX6_within 3 := ⟨⟨TW_of 318 (by decide +kernel) (by decide +kernel), TW_of 57 (by decide +kernel) (by decide +kernel), ⟨by decide +kernel, by decide +kernel, by decide +kernel⟩, by decide⟩, TW_of 317 (by decide +kernel) (by decide +kernel)⟩
theorem mfX6_held : MFS fX6_held 2 := ⟨⟨TW_of 390 (by decide +kernel) (by decide +kernel), TW_of 57 (by decide +kernel) (by decide +kernel), ⟨by decide +kernel, by decide +kernel, by decide +kernel⟩, by decide⟩, TW_of 389 (by decide +kernel) (by decide +kernel)⟩
theorem mfX6_isBearing : MFS fX6_isBearing 1 := ⟨⟨TW_of 321 (by decide +kernel) (by decide +kernel), TW_of 57 (by decide +kernel) (by decide +kernel), ⟨by decide +kernel, by decide +kernel, by decide +kernel⟩, by decide⟩, TW_of 320 (by decide +kernel) (by decide +kernel)⟩
theorem mfX6_isStar : MFS fX6_isStar 1 := ⟨⟨TW_of 422 (by decide +kernel) (by decide +kernel), TW_of 57 (by decide +kernel) (by decide +kernel), ⟨by decide +kernel, by decide +kernel, by decide +kernel⟩, by decide⟩, TW_of 421 (by decide +kernel) (by decide +kernel)⟩
theorem mfX6_isSheet : MFS fX6_isSheet 1 := ⟨⟨TW_of 564 (by decide +kernel) (by decide +kernel), TW_of 57 (by decide +kernel) (by decide +kernel), ⟨by decide +kernel, by decide +kernel, by decide +kernel⟩, by decide⟩, TW_of 563 (by decide +kernel) (by decide +kernel)⟩
theorem mfX6_isSlot : MFS fX6_isSlot 1 := ⟨⟨TW_of 859 (by decide +kernel) (by decide +kernel), TW_of 57 (by decide +kernel) (by decide +kernel), ⟨by decide +kernel, by decide +kernel, by decide +kernel⟩, by decide⟩, TW_of 858 (by decide +kernel) (by decide +kernel)⟩
theorem mfX6_isAttic : MFV fX6_isAttic 1 6 := ⟨⟨TW_of 339 (by decide +kernel) (by decide +kernel), TW_of 57 (by decide +kernel) (by decide +kernel), ⟨by decide +kernel, by decide +kernel, by decide +kernel⟩, by decide⟩, TW_of 338 (by decide +kernel) (by decide +kernel), TW_of 0 (by decide +kernel) (by decide +kernel), ⟨_, rfl, rfl⟩⟩
theorem mfX6_bestOf : MFV fX6_bestOf 4 6 := ⟨⟨TW_of 545 (by decide +kernel) (by decide +kernel), TW_of 57 (by decide +kernel) (by decide +kernel), ⟨by decide +kernel, by decide +kernel, by decide +kernel⟩, by decide⟩, TW_of 544 (by decide +kernel) (by decide +kernel), TW_of 6 (by decide +kernel) (by decide +kernel), ⟨_, rfl, rfl⟩⟩
theorem mfX6_measureDifferences : MFV fX6_measureDifferences 1 6 := ⟨⟨TW_of 569 (by decide +kernel) (by decide +kernel), TW_of 57 (by decide +kernel) (by decide +kernel), ⟨by decide +kernel, by decide +kernel, by decide +kernel⟩, by decide⟩, TW_of 568 (by decide +kernel) (by decide +kernel), TW_of 7 (by decide +kernel) (by decide +kernel), ⟨_, rfl, rfl⟩⟩
theorem mfX7_init : MFI fX7_init 0 := ⟨⟨TW_of 903 (by decide +kernel) (by decide +kernel), TW_of 63 (by decide +kernel) (by decide +kernel), ⟨by decide +kernel, by decide +kernel, by decide +kernel⟩, by decide⟩, TW_of 902 (by decide +kernel) (by decide +kernel), rfl, rfl⟩
theorem mfX7_in : MFS fX7_in 3 := ⟨⟨TW_of 1016 (by decide +kernel) (by decide +kernel), TW_of 63 (by decide +kernel) (by decide +kernel), ⟨by decide +kernel, by decide +kernel, by decide +kernel⟩, by decide⟩, TW_of 1015 (by decide +kernel) (by decide +kernel)⟩
theorem mfX7_within : MFS fX7_within 3 := ⟨⟨TW_of 1052 (by decide +kernel) (by decide +kernel), TW_of 63 (by decide +kernel) (by decide +kernel), ⟨by decide +kernel, by decide +kernel, by decide +kernel⟩, by decide⟩, TW_of 1051 (by decide +kernel) (by decide +kernel)⟩
theorem mfX7_copyAll : MFS fX7_copyAll 2 := ⟨⟨TW_of 1190 (by decide +kernel) (by decide +kernel), TW_of 63 (by decide +kernel) (by decide +kernel), ⟨by decide +kernel, by decide +kernel, by decide +kernel⟩, by decide⟩, TW_of 1189 (by decide +kernel) (by decide +kernel)⟩
theorem mfX7_bits : MFS fX7_bits 1 := ⟨⟨TW_of 1079 (by decide +kernel) (by decide +kernel), TW_of 63 (by decide +kernel) (by decide +kernel), ⟨by decide +kernel, by decide +kernel, by decide +kernel⟩, by decide⟩, TW_of 1078 (by decide +kernel) (by decide +kernel)⟩
theorem mfX7_isAttic : MFV fX7_isAttic 1 7 := ⟨⟨TW_of 1037 (by decide +kernel) (by decide +kernel), TW_of 63 (by decide +kernel) (by decide +kernel), ⟨by decide +kernel, by decide +kernel, by decide +kernel⟩, by decide⟩, TW_of 1036 (by decide +kernel) (by decide +kernel), TW_of 23 (by decide +kernel) (by decide +kernel), ⟨_, rfl, rfl⟩⟩
theorem mfX7_isStar : MFS fX7_isStar 1 := ⟨⟨TW_of 1113 (by decide +kernel) (by decide +kernel), TW_of 63 (by decide +kernel) (by decide +kernel), ⟨by decide +kernel, by decide +kernel, by decide +kernel⟩, by decide⟩, TW_of 1112 (by decide +kernel) (by decide +kernel)⟩
theorem mfX7_isBearing : MFS fX7_isBearing 1 := ⟨⟨TW_of 1019 (by decide +kernel) (by decide +kernel), TW_of 63 (by decide +kernel) (by decide +kernel), ⟨by decide +kernel, by decide +kernel, by decide +kernel⟩, by decide⟩, TW_of 1018 (by decide +kernel) (by decide +kernel)⟩
theorem mfX7_of : MFV fX7_of 2 7 := ⟨⟨TW_of 1041 (by decide +kernel) (by decide +kernel), TW_of 63 (by decide +kernel) (by decide +kernel), ⟨by decide +kernel, by decide +kernel, by decide +kernel⟩, by decide⟩, TW_of 1040 (by decide +kernel) (by decide +kernel), TW_of 24 (by decide +kernel) (by decide +kernel), ⟨_, rfl, rfl⟩⟩
theorem mfX7_put : MFV fX7_put 3 7 := ⟨⟨TW_of 1029 (by decide +kernel) (by decide +kernel), TW_of 63 (by decide +kernel) (by decide +kernel), ⟨by decide +kernel, by decide +kernel, by decide +kernel⟩, by decide⟩, TW_of 1028 (by decide +kernel) (by decide +kernel), TW_of 22 (by decide +kernel) (by decide +kernel), ⟨_, rfl, rfl⟩⟩
theorem mfX7_swaps : MFV fX7_swaps 2 7 := ⟨⟨TW_of 1102 (by decide +kernel) (by decide +kernel), TW_of 63 (by decide +kernel) (by decide +kernel), ⟨by decide +kernel, by decide +kernel, by decide +kernel⟩, by decide⟩, TW_of 1101 (by decide +kernel) (by decide +kernel), TW_of 34 (by decide +kernel) (by decide +kernel), ⟨_, rfl, rfl⟩⟩
theorem mfX7_off : MFS fX7_off 1 := ⟨⟨TW_of 1229 (by decide +kernel) (by decide +kernel), TW_of 63 (by decide +kernel) (by decide +kernel), ⟨by decide +kernel, by decide +kernel, by decide +kernel⟩, by decide⟩, TW_of 1228 (by decide +kernel) (by decide +kernel)⟩
theorem mfX7_wideBy : MFV fX7_wideBy 2 7 := ⟨⟨TW_of 1049 (by decide +kernel) (by decide +kernel), TW_of 63 (by decide +kernel) (by decide +kernel), ⟨by decide +kernel, by decide +kernel, by decide +kernel⟩, by decide⟩, TW_of 1048 (by decide +kernel) (by decide +kernel), TW_of 26 (by decide +kernel) (by decide +kernel), ⟨_, rfl, rfl⟩⟩
theorem mfX7_wideOf : MFV fX7_wideOf 1 7 := ⟨⟨TW_of 1045 (by decide +kernel) (by decide +kernel), TW_of 63 (by decide +kernel) (by decide +kernel), ⟨by decide +kernel, by decide +kernel, by decide +kernel⟩, by decide⟩, TW_of 1044 (by decide +kernel) (by decide +kernel), TW_of 25 (by decide +kernel) (by decide +kernel), ⟨_, rfl, rfl⟩⟩
theorem mfX7_worthOf : MFV fX7_worthOf 1 7 := ⟨⟨TW_of 1335 (by decide +kernel) (by decide +kernel), TW_of 63 (by decide +kernel) (by decide +kernel), ⟨by decide +kernel, by decide +kernel, by decide +kernel⟩, by decide⟩, TW_of 1334 (by decide +kernel) (by decide +kernel), TW_of 55 (by decide +kernel) (by decide +kernel), ⟨_, rfl, rfl⟩⟩
theorem mfX7_standsAt : MFV fX7_standsAt 1 7 := ⟨⟨TW_of 1060 (by decide +kernel) (by decide +kernel), TW_of 63 (by decide +kernel) (by decide +kernel), ⟨by decide +kernel, by decide +kernel, by decide +kernel⟩, by decide⟩, TW_of 1059 (by decide +kernel) (by decide +kernel), TW_of 28 (by decide +kernel) (by decide +kernel), ⟨_, rfl, rfl⟩⟩
theorem mfX7_isHidden : MFV fX7_isHidden 2 7 := ⟨⟨TW_of 1064 (by decide +kernel) (by decide +kernel), TW_of 63 (by decide +kernel) (by decide +kernel), ⟨by decide +kernel, by decide +kernel, by decide +kernel⟩, by decide⟩, TW_of 1063 (by decide +kernel) (by decide +kernel), TW_of 29 (by decide +kernel) (by decide +kernel), ⟨_, rfl, rfl⟩⟩
theorem mfX7_sees : MFV fX7_sees 1 7 := ⟨⟨TW_of 1056 (by decide +kernel) (by decide +kernel), TW_of 63 (by decide +kernel) (by decide +kernel), ⟨by decide +kernel, by decide +kernel, by decide +kernel⟩, by decide⟩, TW_of 1055 (by decide +kernel) (by decide +kernel), TW_of 27 (by decide +kernel) (by decide +kernel), ⟨_, rfl, rfl⟩⟩
theorem mfX7_pricesOf : MFV fX7_pricesOf 1 7 := ⟨⟨TW_of 1076 (by decide +kernel) (by decide +kernel), TW_of 63 (by decide +kernel) (by decide +kernel), ⟨by decide +kernel, by decide +kernel, by decide +kernel⟩, by decide⟩, TW_of 1075 (by decide +kernel) (by decide +kernel), TW_of 32 (by decide +kernel) (by decide +kernel), ⟨_, rfl, rfl⟩⟩
theorem mfX7_rentOf : MFV fX7_rentOf 1 7 := ⟨⟨TW_of 1068 (by decide +kernel) (by decide +kernel), TW_of 63 (by decide +kernel) (by decide +kernel), ⟨by decide +kernel, by decide +kernel, by decide +kernel⟩, by decide⟩, TW_of 1067 (by decide +kernel) (by decide +kernel), TW_of 30 (by decide +kernel) (by decide +kernel), ⟨_, rfl, rfl⟩⟩
theorem mfX7_comes : MFV fX7_comes 3 7 := ⟨⟨TW_of 1025 (by decide +kernel) (by decide +kernel), TW_of 63 (by decide +kernel) (by decide +kernel), ⟨by decide +kernel, by decide +kernel, by decide +kernel⟩, by decide⟩, TW_of 1024 (by decide +kernel) (by decide +kernel), TW_of 21 (by decide +kernel) (by decide +kernel), ⟨_, rfl, rfl⟩⟩
theorem mfX7_attic : MFV fX7_attic 3 7 := ⟨⟨TW_of 1013 (by decide +kernel) (by decide +kernel), TW_of 63 (by decide +kernel) (by decide +kernel), ⟨by decide +kernel, by decide +kernel, by decide +kernel⟩, by decide⟩, TW_of 1011 (by decide +kernel) (by decide +kernel), TW_of 1012 (by decide +kernel) (by decide +kernel), ⟨_, rfl, rfl⟩⟩
theorem mfX7_told : MFV fX7_told 2 7 := ⟨⟨TW_of 1033 (by decide +kernel) (by decide +kernel), TW_of 63 (by decide +kernel) (by decide +kernel), ⟨by decide +kernel, by decide +kernel, by decide +kernel⟩, by decide⟩, TW_of 1031 (by decide +kernel) (by decide +kernel), TW_of 1032 (by decide +kernel) (by decide +kernel), ⟨_, rfl, rfl⟩⟩
theorem mfX7_isUnder : MFS fX7_isUnder 2 := ⟨⟨TW_of 1093 (by decide +kernel) (by decide +kernel), TW_of 63 (by decide +kernel) (by decide +kernel), ⟨by decide +kernel, by decide +kernel, by decide +kernel⟩, by decide⟩, TW_of 1092 (by decide +kernel) (by decide +kernel)⟩
theorem mfX7_as : MFV fX7_as 2 7 := ⟨⟨TW_of 1090 (by decide +kernel) (by decide +kernel), TW_of 63 (by decide +kernel) (by decide +kernel), ⟨by decide +kernel, by decide +kernel, by decide +kernel⟩, by decide⟩, TW_of 1088 (by decide +kernel) (by decide +kernel), TW_of 1089 (by decide +kernel) (by decide +kernel), ⟨_, rfl, rfl⟩⟩
theorem mfX7_turns : MFV fX7_turns 2 7 := ⟨⟨TW_of 1098 (by decide +kernel) (by decide +kernel), TW_of 63 (by decide +kernel) (by decide +kernel), ⟨by decide +kernel, by decide +kernel, by decide +kernel⟩, by decide⟩, TW_of 1096 (by decide +kernel) (by decide +kernel), TW_of 1097 (by decide +kernel) (by decide +kernel), ⟨_, rfl, rfl⟩⟩
theorem mfX7_set : MFV fX7_set 3 7 := ⟨⟨TW_of 1106 (by decide +kernel) (by decide +kernel), TW_of 63 (by decide +kernel) (by decide +kernel), ⟨by decide +kernel, by decide +kernel, by decide +kernel⟩, by decide⟩, TW_of 1104 (by decide +kernel) (by decide +kernel), TW_of 1105 (by decide +kernel) (by decide +kernel), ⟨_, rfl, rfl⟩⟩
theorem mfX7_star : MFV fX7_star 3 7 := ⟨⟨TW_of 1110 (by decide +kernel) (by decide +kernel), TW_of 63 (by decide +kernel) (by decide +kernel), ⟨by decide +kernel, by decide +kernel, by decide +kernel⟩, by decide⟩, TW_of 1108 (by decide +kernel) (by decide +kernel), TW_of 1109 (by decide +kernel) (by decide +kernel), ⟨_, rfl, rfl⟩⟩
theorem mfX7_seers : MFV fX7_seers 1 7 := ⟨⟨TW_of 1121 (by decide +kernel) (by decide +kernel), TW_of 63 (by decide +kernel) (by decide +kernel), ⟨by decide +kernel, by decide +kernel, by decide +kernel⟩, by decide⟩, TW_of 1120 (by decide +kernel) (by decide +kernel), TW_of 35 (by decide +kernel) (by decide +kernel), ⟨_, rfl, rfl⟩⟩
theorem mfX7_starOf : MFV fX7_starOf 2 7 := ⟨⟨TW_of 1117 (by decide +kernel) (by decide +kernel), TW_of 63 (by decide +kernel) (by decide +kernel), ⟨by decide +kernel, by decide +kernel, by decide +kernel⟩, by decide⟩, TW_of 1115 (by decide +kernel) (by decide +kernel), TW_of 1116 (by decide +kernel) (by decide +kernel), ⟨_, rfl, rfl⟩⟩
theorem mfX7_chimney : MFV fX7_chimney 2 7 := ⟨⟨TW_of 1125 (by decide +kernel) (by decide +kernel), TW_of 63 (by decide +kernel) (by decide +kernel), ⟨by decide +kernel, by decide +kernel, by decide +kernel⟩, by decide⟩, TW_of 1123 (by decide +kernel) (by decide +kernel), TW_of 1124 (by decide +kernel) (by decide +kernel), ⟨_, rfl, rfl⟩⟩
theorem mfX7_smokes : MFV fX7_smokes 1 7 := ⟨⟨TW_of 1129 (by decide +kernel) (by decide +kernel), TW_of 63 (by decide +kernel) (by decide +kernel), ⟨by decide +kernel, by decide +kernel, by decide +kernel⟩, by decide⟩, TW_of 1127 (by decide +kernel) (by decide +kernel), TW_of 1128 (by decide +kernel) (by decide +kernel), ⟨_, rfl, rfl⟩⟩
theorem mfX7_rule : MFV fX7_rule 2 7 := ⟨⟨TW_of 1133 (by decide +kernel) (by decide +kernel), TW_of 63 (by decide +kernel) (by decide +kernel), ⟨by decide +kernel, by decide +kernel, by decide +kernel⟩, by decide⟩, TW_of 1131 (by decide +kernel) (by decide +kernel), TW_of 1132 (by decide +kernel) (by decide +kernel), ⟨_, rfl, rfl⟩⟩
theorem mfX7_draw : MFV fX7_draw 0 7 := ⟨⟨TW_of 1141 (by decide +kernel) (by decide +kernel), TW_of 63 (by decide +kernel) (by decide +kernel), ⟨by decide +kernel, by decide +kernel, by decide +kernel⟩, by decide⟩, TW_of 1140 (by decide +kernel) (by decide +kernel), TW_of 36 (by decide +kernel) (by decide +kernel), ⟨_, rfl, rfl⟩⟩
theorem mfX7_deal : MFV fX7_deal 1 7 := ⟨⟨TW_of 1137 (by decide +kernel) (by decide +kernel), TW_of 63 (by decide +kernel) (by decide +kernel), ⟨by decide +kernel, by decide +kernel, by decide +kernel⟩, by decide⟩, TW_of 1135 (by decide +kernel) (by decide +kernel), TW_of 1136 (by decide +kernel) (by decide +kernel), ⟨_, rfl, rfl⟩⟩
theorem mfX7_seed : MFV fX7_seed 1 7 := ⟨⟨TW_of 1146 (by decide +kernel) (by decide +kernel), TW_of 63 (by decide +kernel) (by decide +kernel), ⟨by decide +kernel, by decide +kernel, by decide +kernel⟩, by decide⟩, TW_of 1144 (by decide +kernel) (by decide +kernel), TW_of 1145 (by decide +kernel) (by decide +kernel), ⟨_, rfl, rfl⟩⟩
theorem mfX7_pays : MFV fX7_pays 1 7 := ⟨⟨TW_of 1162 (by decide +kernel) (by decide +kernel), TW_of 63 (by decide +kernel) (by decide +kernel), ⟨by decide +kernel, by decide +kernel, by decide +kernel⟩, by decide⟩, TW_of 1161 (by decide +kernel) (by decide +kernel), TW_of 39 (by decide +kernel) (by decide +kernel), ⟨_, rfl, rfl⟩⟩
theorem mfX7_hour : MFV fX7_hour 0 7 := ⟨⟨TW_of 1158 (by decide +kernel) (by decide +kernel), TW_of 63 (by decide +kernel) (by decide +kernel), ⟨by decide +kernel, by decide +kernel, by decide +kernel⟩, by decide⟩, TW_of 1157 (by decide +kernel) (by decide +kernel), TW_of 38 (by decide +kernel) (by decide +kernel), ⟨_, rfl, rfl⟩⟩
theorem mfX7_goesOn : MFV fX7_goesOn 1 7 := ⟨⟨TW_of 1154 (by decide +kernel) (by decide +kernel), TW_of 63 (by decide +kernel) (by decide +kernel), ⟨by decide +kernel, by decide +kernel, by decide +kernel⟩, by decide⟩, TW_of 1153 (by decide +kernel) (by decide +kernel), TW_of 37 (by decide +kernel) (by decide +kernel), ⟨_, rfl, rfl⟩⟩
theorem mfX7_hours : MFV fX7_hours 1 7 := ⟨⟨TW_of 1150 (by decide +kernel) (by decide +kernel), TW_of 63 (by decide +kernel) (by decide +kernel), ⟨by decide +kernel, by decide +kernel, by decide +kernel⟩, by decide⟩, TW_of 1148 (by decide +kernel) (by decide +kernel), TW_of 1149 (by decide +kernel) (by decide +kernel), ⟨_, rfl, rfl⟩⟩
theorem mfX7_sumOf : MFV fX7_sumOf 1 7 := ⟨⟨TW_of 1170 (by decide +kernel) (by decide +kernel), TW_of 63 (by decide +kernel) (by decide +kernel), ⟨by decide +kernel, by decide +kernel, by decide +kernel⟩, by decide⟩, TW_of 1169 (by decide +kernel) (by decide +kernel), TW_of 40 (by decide +kernel) (by decide +kernel), ⟨_, rfl, rfl⟩⟩
theorem mfX7_dark : MFV fX7_dark 0 7 := ⟨⟨TW_of 1174 (by decide +kernel) (by decide +kernel), TW_of 63 (by decide +kernel) (by decide +kernel), ⟨by decide +kernel, by decide +kernel, by decide +kernel⟩, by decide⟩, TW_of 1173 (by decide +kernel) (by decide +kernel), TW_of 41 (by decide +kernel) (by decide +kernel), ⟨_, rfl, rfl⟩⟩
theorem mfX7_town : MFV fX7_town 1 7 := ⟨⟨TW_of 1166 (by decide +kernel) (by decide +kernel), TW_of 63 (by decide +kernel) (by decide +kernel), ⟨by decide +kernel, by decide +kernel, by decide +kernel⟩, by decide⟩, TW_of 1164 (by decide +kernel) (by decide +kernel), TW_of 1165 (by decide +kernel) (by decide +kernel), ⟨_, rfl, rfl⟩⟩
theorem mfX7_cover : MFV fX7_cover 1 7 := ⟨⟨TW_of 1178 (by decide +kernel) (by decide +kernel), TW_of 63 (by decide +kernel) (by decide +kernel), ⟨by decide +kernel, by decide +kernel, by decide +kernel⟩, by decide⟩, TW_of 1176 (by decide +kernel) (by decide +kernel), TW_of 1177 (by decide +kernel) (by decide +kernel), ⟨_, rfl, rfl⟩⟩
theorem mfX7_thinks : MFV fX7_thinks 0 7 := ⟨⟨TW_of 1187 (by decide +kernel) (by decide +kernel), TW_of 63 (by decide +kernel) (by decide +kernel), ⟨by decide +kernel, by decide +kernel, by decide +kernel⟩, by decide⟩, TW_of 1186 (by decide +kernel) (by decide +kernel), TW_of 42 (by decide +kernel) (by decide +kernel), ⟨_, rfl, rfl⟩⟩
theorem mfX7_putsBack : MFV fX7_putsBack 0 7 := ⟨⟨TW_of 1194 (by decide +kernel) (by decide +kernel), TW_of 63 (by decide +kernel) (by decide +kernel), ⟨by decide +kernel, by decide +kernel, by decide +kernel⟩, by decide⟩, TW_of 1193 (by decide +kernel) (by decide +kernel), TW_of 43 (by decide +kernel) (by decide +kernel), ⟨_, rfl, rfl⟩⟩
theorem mfX7_behind : MFV fX7_behind 2 7 := ⟨⟨TW_of 1183 (by decide +kernel) (by decide +kernel), TW_of 63 (by decide +kernel) (by decide +kernel), ⟨by decide +kernel, by decide +kernel, by decide +kernel⟩, by decide⟩, TW_of 1181 (by decide +kernel) (by decide +kernel), TW_of 1182 (by decide +kernel) (by decide +kernel), ⟨_, rfl, rfl⟩⟩
theorem mfX7_debt : MFV fX7_debt 2 7 := ⟨⟨TW_of 1198 (by decide +kernel) (by decide +kernel), TW_of 63 (by decide +kernel) (by decide +kernel), ⟨by decide +kernel, by decide +kernel, by decide +kernel⟩, by decide⟩, TW_of 1196 (by decide +kernel) (by decide +kernel), TW_of 1197 (by decide +kernel) (by decide +kernel), ⟨_, rfl, rfl⟩⟩
theorem mfX7_rises : MFV fX7_rises 2 7 := ⟨⟨TW_of 1202 (by decide +kernel) (by decide +kernel), TW_of 63 (by decide +kernel) (by decide +kernel), ⟨by decide +kernel, by decide +kernel, by decide +kernel⟩, by decide⟩, TW_of 1200 (by decide +kernel) (by decide +kernel), TW_of 1201 (by decide +kernel) (by decide +kernel), ⟨_, rfl, rfl⟩⟩
theorem mfX7_mostBy : MFV fX7_mostBy 4 7 := ⟨⟨TW_of 1210 (by decide +kernel) (by decide +kernel), TW_of 63 (by decide +kernel) (by decide +kernel), ⟨by decide +kernel, by decide +kernel, by decide +kernel⟩, by decide⟩, TW_of 1209 (by decide +kernel) (by decide +kernel), TW_of 44 (by decide +kernel) (by decide +kernel), ⟨_, rfl, rfl⟩⟩
theorem mfX7_turned : MFV fX7_turned 3 7 := ⟨⟨TW_of 1206 (by decide +kernel) (by decide +kernel), TW_of 63 (by decide +kernel) (by decide +kernel), ⟨by decide +kernel, by decide +kernel, by decide +kernel⟩, by decide⟩, TW_of 1204 (by decide +kernel) (by decide +kernel), TW_of 1205 (by decide +kernel) (by decide +kernel), ⟨_, rfl, rfl⟩⟩
theorem mfX7_becomes : MFV fX7_becomes 3 7 := ⟨⟨TW_of 1214 (by decide +kernel) (by decide +kernel), TW_of 63 (by decide +kernel) (by decide +kernel), ⟨by decide +kernel, by decide +kernel, by decide +kernel⟩, by decide⟩, TW_of 1212 (by decide +kernel) (by decide +kernel), TW_of 1213 (by decide +kernel) (by decide +kernel), ⟨_, rfl, rfl⟩⟩
theorem mfX7_stands : MFV fX7_stands 2 7 := ⟨⟨TW_of 1218 (by decide +kernel) (by decide +kernel), TW_of 63 (by decide +kernel) (by decide +kernel), ⟨by decide +kernel, by decide +kernel, by decide +kernel⟩, by decide⟩, TW_of 1216 (by decide +kernel) (by decide +kernel), TW_of 1217 (by decide +kernel) (by decide +kernel), ⟨_, rfl, rfl⟩⟩
theorem mfX7_like : MFV fX7_like 2 7 := ⟨⟨TW_of 1222 (by decide +kernel) (by decide +kernel), TW_of 63 (by decide +kernel) (by decide +kernel), ⟨by decide +kernel, by decide +kernel, by decide +kernel⟩, by decide⟩, TW_of 1220 (by decide +kernel) (by decide +kernel), TW_of 1221 (by decide +kernel) (by decide +kernel), ⟨_, rfl, rfl⟩⟩
theorem mfX7_fee : MFV fX7_fee 0 7 := ⟨⟨TW_of 1233 (by decide +kernel) (by decide +kernel), TW_of 63 (by decide +kernel) (by decide +kernel), ⟨by decide +kernel, by decide +kernel, by decide +kernel⟩, by decide⟩, TW_of 1231 (by decide +kernel) (by decide +kernel), TW_of 1232 (by decide +kernel) (by decide +kernel), ⟨_, rfl, rfl⟩⟩
theorem mfX7_fine : MFV fX7_fine 1 7 := ⟨⟨TW_of 1237 (by decide +kernel) (by decide +kernel), TW_of 63 (by decide +kernel) (by decide +kernel), ⟨by decide +kernel, by decide +kernel, by decide +kernel⟩, by decide⟩, TW_of 1235 (by decide +kernel) (by decide +kernel), TW_of 1236 (by decide +kernel) (by decide +kernel), ⟨_, rfl, rfl⟩⟩
theorem mfX7_feed : MFV fX7_feed 3 7 := ⟨⟨TW_of 1241 (by decide +kernel) (by decide +kernel), TW_of 63 (by decide +kernel) (by decide +kernel), ⟨by decide +kernel, by decide +kernel, by decide +kernel⟩, by decide⟩, TW_of 1239 (by decide +kernel) (by decide +kernel), TW_of 1240 (by decide +kernel) (by decide +kernel), ⟨_, rfl, rfl⟩⟩
theorem mfX7_trim : MFV fX7_trim 1 7 := ⟨⟨TW_of 1245 (by decide +kernel) (by decide +kernel), TW_of 63 (by decide +kernel) (by decide +kernel), ⟨by decide +kernel, by decide +kernel, by decide +kernel⟩, by decide⟩, TW_of 1243 (by decide +kernel) (by decide +kernel), TW_of 1244 (by decide +kernel) (by decide +kernel), ⟨_, rfl, rfl⟩⟩
theorem mfX7_isLetter : MFV fX7_isLetter 1 7 := ⟨⟨TW_of 1257 (by decide +kernel) (by decide +kernel), TW_of 63 (by decide +kernel) (by decide +kernel), ⟨by decide +kernel, by decide +kernel, by decide +kernel⟩, by decide⟩, TW_of 1256 (by decide +kernel) (by decide +kernel), TW_of 46 (by decide +kernel) (by decide +kernel), ⟨_, rfl, rfl⟩⟩
theorem mfX7_isFigure : MFV fX7_isFigure 1 7 := ⟨⟨TW_of 1261 (by decide +kernel) (by decide +kernel), TW_of 63 (by decide +kernel) (by decide +kernel), ⟨by decide +kernel, by decide +kernel, by decide +kernel⟩, by decide⟩, TW_of 1260 (by decide +kernel) (by decide +kernel), TW_of 47 (by decide +kernel) (by decide +kernel), ⟨_, rfl, rfl⟩⟩
theorem mfX7_go : MFV fX7_go 0 7 := ⟨⟨TW_of 1253 (by decide +kernel) (by decide +kernel), TW_of 63 (by decide +kernel) (by decide +kernel), ⟨by decide +kernel, by decide +kernel, by decide +kernel⟩, by decide⟩, TW_of 1252 (by decide +kernel) (by decide +kernel), TW_of 45 (by decide +kernel) (by decide +kernel), ⟨_, rfl, rfl⟩⟩
theorem mfX7_takesKey : MFV fX7_takesKey 0 7 := ⟨⟨TW_of 1265 (by decide +kernel) (by decide +kernel), TW_of 63 (by decide +kernel) (by decide +kernel), ⟨by decide +kernel, by decide +kernel, by decide +kernel⟩, by decide⟩, TW_of 1264 (by decide +kernel) (by decide +kernel), TW_of 48 (by decide +kernel) (by decide +kernel), ⟨_, rfl, rfl⟩⟩
theorem mfX7_nameOf : MFV fX7_nameOf 1 7 := ⟨⟨TW_of 1277 (by decide +kernel) (by decide +kernel), TW_of 63 (by decide +kernel) (by decide +kernel), ⟨by decide +kernel, by decide +kernel, by decide +kernel⟩, by decide⟩, TW_of 1276 (by decide +kernel) (by decide +kernel), TW_of 51 (by decide +kernel) (by decide +kernel), ⟨_, rfl, rfl⟩⟩
theorem mfX7_rank : MFS fX7_rank 1 := ⟨⟨TW_of 1284 (by decide +kernel) (by decide +kernel), TW_of 63 (by decide +kernel) (by decide +kernel), ⟨by decide +kernel, by decide +kernel, by decide +kernel⟩, by decide⟩, TW_of 1283 (by decide +kernel) (by decide +kernel)⟩
theorem mfX7_settle : MFV fX7_settle 1 7 := ⟨⟨TW_of 1281 (by decide +kernel) (by decide +kernel), TW_of 63 (by decide +kernel) (by decide +kernel), ⟨by decide +kernel, by decide +kernel, by decide +kernel⟩, by decide⟩, TW_of 1280 (by decide +kernel) (by decide +kernel), TW_of 52 (by decide +kernel) (by decide +kernel), ⟨_, rfl, rfl⟩⟩
theorem mfX7_signHere : MFV fX7_signHere 0 7 := ⟨⟨TW_of 1292 (by decide +kernel) (by decide +kernel), TW_of 63 (by decide +kernel) (by decide +kernel), ⟨by decide +kernel, by decide +kernel, by decide +kernel⟩, by decide⟩, TW_of 1291 (by decide +kernel) (by decide +kernel), TW_of 54 (by decide +kernel) (by decide +kernel), ⟨_, rfl, rfl⟩⟩
theorem mfX7_takesPart : MFV fX7_takesPart 0 7 := ⟨⟨TW_of 1273 (by decide +kernel) (by decide +kernel), TW_of 63 (by decide +kernel) (by decide +kernel), ⟨by decide +kernel, by decide +kernel, by decide +kernel⟩, by decide⟩, TW_of 1272 (by decide +kernel) (by decide +kernel), TW_of 50 (by decide +kernel) (by decide +kernel), ⟨_, rfl, rfl⟩⟩
theorem mfX7_takesE : MFV fX7_takesE 0 7 := ⟨⟨TW_of 1269 (by decide +kernel) (by decide +kernel), TW_of 63 (by decide +kernel) (by decide +kernel), ⟨by decide +kernel, by decide +kernel, by decide +kernel⟩, by decide⟩, TW_of 1268 (by decide +kernel) (by decide +kernel), TW_of 49 (by decide +kernel) (by decide +kernel), ⟨_, rfl, rfl⟩⟩
theorem mfX7_notsOpen : MFV fX7_notsOpen 0 7 := ⟨⟨TW_of 1288 (by decide +kernel) (by decide +kernel), TW_of 63 (by decide +kernel) (by decide +kernel), ⟨by decide +kernel, by decide +kernel, by decide +kernel⟩, by decide⟩, TW_of 1287 (by decide +kernel) (by decide +kernel), TW_of 53 (by decide +kernel) (by decide +kernel), ⟨_, rfl, rfl⟩⟩
theorem mfX7_text : MFV fX7_text 0 7 := ⟨⟨TW_of 1249 (by decide +kernel) (by decide +kernel), TW_of 63 (by decide +kernel) (by decide +kernel), ⟨by decide +kernel, by decide +kernel, by decide +kernel⟩, by decide⟩, TW_of 1247 (by decide +kernel) (by decide +kernel), TW_of 1248 (by decide +kernel) (by decide +kernel), ⟨_, rfl, rfl⟩⟩
theorem mfX7_textTold : MFV fX7_textTold 2 7 := ⟨⟨TW_of 1296 (by decide +kernel) (by decide +kernel), TW_of 63 (by decide +kernel) (by decide +kernel), ⟨by decide +kernel, by decide +kernel, by decide +kernel⟩, by decide⟩, TW_of 1294 (by decide +kernel) (by decide +kernel), TW_of 1295 (by decide +kernel) (by decide +kernel), ⟨_, rfl, rfl⟩⟩
theorem mfX7_counts : MFV fX7_counts 1 7 := ⟨⟨TW_of 1072 (by decide +kernel) (by decide +kernel), TW_of 63 (by decide +kernel) (by decide +kernel), ⟨by decide +kernel, by decide +kernel, by decide +kernel⟩, by decide⟩, TW_of 1071 (by decide +kernel) (by decide +kernel), TW_of 31 (by decide +kernel) (by decide +kernel), ⟨_, rfl, rfl⟩⟩
theorem mfX7_why : MFV fX7_why 1 7 := ⟨⟨TW_of 1300 (by decide +kernel) (by decide +kernel), TW_of 63 (by decide +kernel) (by decide +kernel), ⟨by decide +kernel, by decide +kernel, by decide +kernel⟩, by decide⟩, TW_of 1298 (by decide +kernel) (by decide +kernel), TW_of 1299 (by decide +kernel) (by decide +kernel), ⟨_, rfl, rfl⟩⟩
theorem mfX7_two : MFS fX7_two 3 := ⟨⟨TW_of 1086 (by decide +kernel) (by decide +kernel), TW_of 63 (by decide +kernel) (by decide +kernel), ⟨by decide +kernel, by decide +kernel, by decide +kernel⟩, by decide⟩, TW_of 1085 (by decide +kernel) (by decide +kernel)⟩
theorem mfX7_worksOut : MFV fX7_worksOut 1 7 := ⟨⟨TW_of 1083 (by decide +kernel) (by decide +kernel), TW_of 63 (by decide +kernel) (by decide +kernel), ⟨by decide +kernel, by decide +kernel, by decide +kernel⟩, by decide⟩, TW_of 1082 (by decide +kernel) (by decide +kernel), TW_of 33 (by decide +kernel) (by decide +kernel), ⟨_, rfl, rfl⟩⟩
theorem mfX7_isSheet : MFS fX7_isSheet 1 := ⟨⟨TW_of 1225 (by decide +kernel) (by decide +kernel), TW_of 63 (by decide +kernel) (by decide +kernel), ⟨by decide +kernel, by decide +kernel, by decide +kernel⟩, by decide⟩, TW_of 1224 (by decide +kernel) (by decide +kernel)⟩
theorem mfX7_isSlot : MFS fX7_isSlot 1 := ⟨⟨TW_of 1331 (by decide +kernel) (by decide +kernel), TW_of 63 (by decide +kernel) (by decide +kernel), ⟨by decide +kernel, by decide +kernel, by decide +kernel⟩, by decide⟩, TW_of 1330 (by decide +kernel) (by decide +kernel)⟩
theorem mfX7_sheet : MFV fX7_sheet 3 7 := ⟨⟨TW_of 1304 (by decide +kernel) (by decide +kernel), TW_of 63 (by decide +kernel) (by decide +kernel), ⟨by decide +kernel, by decide +kernel, by decide +kernel⟩, by decide⟩, TW_of 1302 (by decide +kernel) (by decide +kernel), TW_of 1303 (by decide +kernel) (by decide +kernel), ⟨_, rfl, rfl⟩⟩
theorem mfX7_mark : MFV fX7_mark 3 7 := ⟨⟨TW_of 1309 (by decide +kernel) (by decide +kernel), TW_of 63 (by decide +kernel) (by decide +kernel), ⟨by decide +kernel, by decide +kernel, by decide +kernel⟩, by decide⟩, TW_of 1307 (by decide +kernel) (by decide +kernel), TW_of 1308 (by decide +kernel) (by decide +kernel), ⟨_, rfl, rfl⟩⟩
theorem mfX7_pour : MFV fX7_pour 1 7 := ⟨⟨TW_of 1316 (by decide +kernel) (by decide +kernel), TW_of 63 (by decide +kernel) (by decide +kernel), ⟨by decide +kernel, by decide +kernel, by decide +kernel⟩, by decide⟩, TW_of 1314 (by decide +kernel) (by decide +kernel), TW_of 1315 (by decide +kernel) (by decide +kernel), ⟨_, rfl, rfl⟩⟩
theorem mfX7_reads : MFV fX7_reads 1 7 := ⟨⟨TW_of 1320 (by decide +kernel) (by decide +kernel), TW_of 63 (by decide +kernel) (by decide +kernel), ⟨by decide +kernel, by decide +kernel, by decide +kernel⟩, by decide⟩, TW_of 1318 (by decide +kernel) (by decide +kernel), TW_of 1319 (by decide +kernel) (by decide +kernel), ⟨_, rfl, rfl⟩⟩
theorem mfX7_copy : MFV fX7_copy 5 7 := ⟨⟨TW_of 1324 (by decide +kernel) (by decide +kernel), TW_of 63 (by decide +kernel) (by decide +kernel), ⟨by decide +kernel, by decide +kernel, by decide +kernel⟩, by decide⟩, TW_of 1322 (by decide +kernel) (by decide +kernel), TW_of 1323 (by decide +kernel) (by decide +kernel), ⟨_, rfl, rfl⟩⟩
theorem mfX7_lay : MFV fX7_lay 3 7 := ⟨⟨TW_of 1328 (by decide +kernel) (by decide +kernel), TW_of 63 (by decide +kernel) (by decide +kernel), ⟨by decide +kernel, by decide +kernel, by decide +kernel⟩, by decide⟩, TW_of 1326 (by decide +kernel) (by decide +kernel), TW_of 1327 (by decide +kernel) (by decide +kernel), ⟨_, rfl, rfl⟩⟩
theorem mfX7_ask : MFV fX7_ask 2 7 := ⟨⟨TW_of 1339 (by decide +kernel) (by decide +kernel), TW_of 63 (by decide +kernel) (by decide +kernel), ⟨by decide +kernel, by decide +kernel, by decide +kernel⟩, by decide⟩, TW_of 1337 (by decide +kernel) (by decide +kernel), TW_of 1338 (by decide +kernel) (by decide +kernel), ⟨_, rfl, rfl⟩⟩
theorem mfX7_item : MFV fX7_item 2 7 := ⟨⟨TW_of 1343 (by decide +kernel) (by decide +kernel), TW_of 63 (by decide +kernel) (by decide +kernel), ⟨by decide +kernel, by decide +kernel, by decide +kernel⟩, by decide⟩, TW_of 1341 (by decide +kernel) (by decide +kernel), TW_of 1342 (by decide +kernel) (by decide +kernel), ⟨_, rfl, rfl⟩⟩
theorem mfX7_rest : MFV fX7_rest 2 7 := ⟨⟨TW_of 1347 (by decide +kernel) (by decide +kernel), TW_of 63 (by decide +kernel) (by decide +kernel), ⟨by decide +kernel, by decide +kernel, by decide +kernel⟩, by decide⟩, TW_of 1345 (by decide +kernel) (by decide +kernel), TW_of 1346 (by decide +kernel) (by decide +kernel), ⟨_, rfl, rfl⟩⟩
theorem mfX7_tell : MFV fX7_tell 1 7 := ⟨⟨TW_of 1352 (by decide +kernel) (by decide +kernel), TW_of 63 (by decide +kernel) (by decide +kernel), ⟨by decide +kernel, by decide +kernel, by decide +kernel⟩, by decide⟩, TW_of 1350 (by decide +kernel) (by decide +kernel), TW_of 1351 (by decide +kernel) (by decide +kernel), ⟨_, rfl, rfl⟩⟩
theorem mfX7_check : MFV fX7_check 1 7 := ⟨⟨TW_of 1356 (by decide +kernel) (by decide +kernel), TW_of 63 (by decide +kernel) (by decide +kernel), ⟨by decide +kernel, by decide +kernel, by decide +kernel⟩, by decide⟩, TW_of 1354 (by decide +kernel) (by decide +kernel), TW_of 1355 (by decide +kernel) (by decide +kernel), ⟨_, rfl, rfl⟩⟩
theorem mfX7_keep : MFV fX7_keep 0 7 := ⟨⟨TW_of 1360 (by decide +kernel) (by decide +kernel), TW_of 63 (by decide +kernel) (by decide +kernel), ⟨by decide +kernel, by decide +kernel, by decide +kernel⟩, by decide⟩, TW_of 1358 (by decide +kernel) (by decide +kernel), TW_of 1359 (by decide +kernel) (by decide +kernel), ⟨_, rfl, rfl⟩⟩
theorem mfX7_back : MFV fX7_back 0 7 := ⟨⟨TW_of 1364 (by decide +kernel) (by decide +kernel), TW_of 63 (by decide +kernel) (by decide +kernel), ⟨by decide +kernel, by decide +kernel, by decide +kernel⟩, by decide⟩, TW_of 1362 (by decide +kernel) (by decide +kernel), TW_of 1363 (by decide +kernel) (by decide +kernel), ⟨_, rfl, rfl⟩⟩
theorem mfX7_count : MFV fX7_count 1 7 := ⟨⟨TW_of 1368 (by decide +kernel) (by decide +kernel), TW_of 63 (by decide +kernel) (by decide +kernel), ⟨by decide +kernel, by decide +kernel, by decide +kernel⟩, by decide⟩, TW_of 1366 (by decide +kernel) (by decide +kernel), TW_of 1367 (by decide +kernel) (by decide +kernel), ⟨_, rfl, rfl⟩⟩
theorem mfJ11_isValidCodePoint_9a6ad : MFS fJ11_isValidCodePoint_9a6ad 1 := ⟨⟨TW_of 761 (by decide +kernel) (by decide +kernel), TW_of 72 (by decide +kernel) (by decide +kernel), ⟨by decide +kernel, by decide +kernel, by decide +kernel⟩, by decide⟩, TW_of 760 (by decide +kernel) (by decide +kernel)⟩
theorem mfJ11_highSurrogate_5068e : MFS fJ11_highSurrogate_5068e 1 := ⟨⟨TW_of 764 (by decide +kernel) (by decide +kernel), TW_of 72 (by decide +kernel) (by decide +kernel), ⟨by decide +kernel, by decide +kernel, by decide +kernel⟩, by decide⟩, TW_of 763 (by decide +kernel) (by decide +kernel)⟩
theorem mfJ11_lowSurrogate_5068e : MFS fJ11_lowSurrogate_5068e 1 := ⟨⟨TW_of 768 (by decide +kernel) (by decide +kernel), TW_of 72 (by decide +kernel) (by decide +kernel), ⟨by decide +kernel, by decide +kernel, by decide +kernel⟩, by decide⟩, TW_of 767 (by decide +kernel) (by decide +kernel)⟩
theorem mfJ6_bitCount_0f7a4 : MFS fJ6_bitCount_0f7a4 1 := ⟨⟨TW_of 377 (by decide +kernel) (by decide +kernel), TW_of 65 (by decide +kernel) (by decide +kernel), ⟨by decide +kernel, by decide +kernel, by decide +kernel⟩, by decide⟩, TW_of 376 (by decide +kernel) (by decide +kernel)⟩
theorem mfJ9_abs_0f7a4 : MFS fJ9_abs_0f7a4 1 := ⟨⟨TW_of 582 (by decide +kernel) (by decide +kernel), TW_of 64 (by decide +kernel) (by decide +kernel), ⟨by decide +kernel, by decide +kernel, by decide +kernel⟩, by decide⟩, TW_of 581 (by decide +kernel) (by decide +kernel)⟩
theorem mfJ9_max_7cf53 : MFS fJ9_max_7cf53 2 := ⟨⟨TW_of 394 (by decide +kernel) (by decide +kernel), TW_of 64 (by decide +kernel) (by decide +kernel), ⟨by decide +kernel, by decide +kernel, by decide +kernel⟩, by decide⟩, TW_of 393 (by decide +kernel) (by decide +kernel)⟩
theorem mfJ9_min_7cf53 : MFS fJ9_min_7cf53 2 := ⟨⟨TW_of 346 (by decide +kernel) (by decide +kernel), TW_of 64 (by decide +kernel) (by decide +kernel), ⟨by decide +kernel, by decide +kernel, by decide +kernel⟩, by decide⟩, TW_of 345 (by decide +kernel) (by decide +kernel)⟩
theorem mfJ0_checkIndex_df160 : MFS fJ0_checkIndex_df160 2 := ⟨⟨TW_of 661 (by decide +kernel) (by decide +kernel), TW_of 68 (by decide +kernel) (by decide +kernel), ⟨by decide +kernel, by decide +kernel, by decide +kernel⟩, by decide⟩, TW_of 660 (by decide +kernel) (by decide +kernel)⟩
theorem mfJ0_checkBoundsBeginEnd_23922 : MFS fJ0_checkBoundsBeginEnd_23922 3 := ⟨⟨TW_of 749 (by decide +kernel) (by decide +kernel), TW_of 68 (by decide +kernel) (by decide +kernel), ⟨by decide +kernel, by decide +kernel, by decide +kernel⟩, by decide⟩, TW_of 748 (by decide +kernel) (by decide +kernel)⟩
theorem mfJ1_charAt_3b067 : MFS fJ1_charAt_3b067 2 := ⟨⟨TW_of 658 (by decide +kernel) (by decide +kernel), TW_of 69 (by decide +kernel) (by decide +kernel), ⟨by decide +kernel, by decide +kernel, by decide +kernel⟩, by decide⟩, TW_of 657 (by decide +kernel) (by decide +kernel)⟩
theorem mfJ1_canEncode_9a6ad : MFS fJ1_canEncode_9a6ad 1 := ⟨⟨TW_of 729 (by decide +kernel) (by decide +kernel), TW_of 69 (by decide +kernel) (by decide +kernel), ⟨by decide +kernel, by decide +kernel, by decide +kernel⟩, by decide⟩, TW_of 728 (by decide +kernel) (by decide +kernel)⟩
theorem mfJ1_indexOf_4cfef : MFS fJ1_indexOf_4cfef 4 := ⟨⟨TW_of 726 (by decide +kernel) (by decide +kernel), TW_of 69 (by decide +kernel) (by decide +kernel), ⟨by decide +kernel, by decide +kernel, by decide +kernel⟩, by decide⟩, TW_of 725 (by decide +kernel) (by decide +kernel)⟩
theorem mfJ1_indexOfChar_4cfef : MFS fJ1_indexOfChar_4cfef 4 := ⟨⟨TW_of 734 (by decide +kernel) (by decide +kernel), TW_of 69 (by decide +kernel) (by decide +kernel), ⟨by decide +kernel, by decide +kernel, by decide +kernel⟩, by decide⟩, TW_of 733 (by decide +kernel) (by decide +kernel)⟩
theorem mfJ2_getChar_3b067 : MFS fJ2_getChar_3b067 2 := ⟨⟨TW_of 679 (by decide +kernel) (by decide +kernel), TW_of 71 (by decide +kernel) (by decide +kernel), ⟨by decide +kernel, by decide +kernel, by decide +kernel⟩, by decide⟩, TW_of 678 (by decide +kernel) (by decide +kernel)⟩
theorem mfJ2_length_9d52b : MFS fJ2_length_9d52b 1 := ⟨⟨TW_of 675 (by decide +kernel) (by decide +kernel), TW_of 71 (by decide +kernel) (by decide +kernel), ⟨by decide +kernel, by decide +kernel, by decide +kernel⟩, by decide⟩, TW_of 674 (by decide +kernel) (by decide +kernel)⟩
theorem mfJ2_indexOf_4cfef : MFS fJ2_indexOf_4cfef 4 := ⟨⟨TW_of 737 (by decide +kernel) (by decide +kernel), TW_of 71 (by decide +kernel) (by decide +kernel), ⟨by decide +kernel, by decide +kernel, by decide +kernel⟩, by decide⟩, TW_of 736 (by decide +kernel) (by decide +kernel)⟩
theorem mfJ2_indexOfChar_4cfef : MFS fJ2_indexOfChar_4cfef 4 := ⟨⟨TW_of 743 (by decide +kernel) (by decide +kernel), TW_of 71 (by decide +kernel) (by decide +kernel), ⟨by decide +kernel, by decide +kernel, by decide +kernel⟩, by decide⟩, TW_of 742 (by decide +kernel) (by decide +kernel)⟩
theorem mfJ2_indexOfCharUnsafe_4cfef : MFS fJ2_indexOfCharUnsafe_4cfef 4 := ⟨⟨TW_of 755 (by decide +kernel) (by decide +kernel), TW_of 71 (by decide +kernel) (by decide +kernel), ⟨by decide +kernel, by decide +kernel, by decide +kernel⟩, by decide⟩, TW_of 754 (by decide +kernel) (by decide +kernel)⟩
theorem mfJ2_indexOfSupplementary_4cfef : MFS fJ2_indexOfSupplementary_4cfef 4 := ⟨⟨TW_of 758 (by decide +kernel) (by decide +kernel), TW_of 71 (by decide +kernel) (by decide +kernel), ⟨by decide +kernel, by decide +kernel, by decide +kernel⟩, by decide⟩, TW_of 757 (by decide +kernel) (by decide +kernel)⟩
theorem mfJ2_charAt_3b067 : MFS fJ2_charAt_3b067 2 := ⟨⟨TW_of 669 (by decide +kernel) (by decide +kernel), TW_of 71 (by decide +kernel) (by decide +kernel), ⟨by decide +kernel, by decide +kernel, by decide +kernel⟩, by decide⟩, TW_of 668 (by decide +kernel) (by decide +kernel)⟩
theorem mfJ2_checkIndex_2214a : MFS fJ2_checkIndex_2214a 2 := ⟨⟨TW_of 672 (by decide +kernel) (by decide +kernel), TW_of 71 (by decide +kernel) (by decide +kernel), ⟨by decide +kernel, by decide +kernel, by decide +kernel⟩, by decide⟩, TW_of 671 (by decide +kernel) (by decide +kernel)⟩
theorem mfJ2_checkBoundsBeginEnd_d044e : MFS fJ2_checkBoundsBeginEnd_d044e 3 := ⟨⟨TW_of 746 (by decide +kernel) (by decide +kernel), TW_of 71 (by decide +kernel) (by decide +kernel), ⟨by decide +kernel, by decide +kernel, by decide +kernel⟩, by decide⟩, TW_of 745 (by decide +kernel) (by decide +kernel)⟩
theorem mfJ3_checkIndex_8e157 : MFS fJ3_checkIndex_8e157 3 := ⟨⟨TW_of 666 (by decide +kernel) (by decide +kernel), TW_of 70 (by decide +kernel) (by decide +kernel), ⟨by decide +kernel, by decide +kernel, by decide +kernel⟩, by decide⟩, TW_of 665 (by decide +kernel) (by decide +kernel)⟩
theorem mfJ3_checkFromToIndex_8c36e : MFS fJ3_checkFromToIndex_8c36e 4 := ⟨⟨TW_of 752 (by decide +kernel) (by decide +kernel), TW_of 70 (by decide +kernel) (by decide +kernel), ⟨by decide +kernel, by decide +kernel, by decide +kernel⟩, by decide⟩, TW_of 751 (by decide +kernel) (by decide +kernel)⟩
end
section
/-! shorter rows: exact contracts, counters as nI, tests of booleans -/
def b2i (p : Prop) [Decidable p] : Int32 := if p then 1 else 0
theorem b2i_t {p : Prop} [Decidable p] (h : p) : b2i p = 1 := if_pos h
theorem b2i_f {p : Prop} [Decidable p] (h : ¬ p) : b2i p = 0 := if_neg h
theorem b2i_eq0 {p : Prop} [Decidable p] : b2i p = 0 ↔ ¬ p := by unfold b2i; split <;> simp_all
theorem b2i_eq1 {p : Prop} [Decidable p] : b2i p = 1 ↔ p := by unfold b2i; split <;> simp_all
theorem b2i_z {p : Prop} [Decidable p] : narrow .boolean (.int (b2i p)) = .int (b2i p) := by unfold b2i; split <;> decide
theorem b2i_congr {p q : Prop} [Decidable p] [Decidable q] (h : p ↔ q) : b2i p = b2i q := by unfold b2i; simp [h]
theorem nI_lit (n : Nat) : (OfNat.ofNat n : Int32) = nI n := rfl
theorem nI_mul (a b : Nat) : nI a * nI b = nI (a * b) := by
  unfold nI
  exact (Int32.ofNat_mul a b).symm
abbrev pI (x : Int32) (S : Sg) (mi : Mem) : Pt3 := fun r S' mi' => r = some (.int x) ∧ S' = S ∧ mi' = mi
abbrev pV (S : Sg) (mi : Mem) : Pt3 := fun r S' mi' => r = none ∧ S' = S ∧ mi' = mi
abbrev OkI (d : Nat) (fr : Fr) (X : Xb) (av : List Value) (S : Sg) (mi : Mem) (x : Int32) (mi2 : Mem) : Prop := Ok d 0 0 fr X av S mi (pI x S mi2)
abbrev OkV (d : Nat) (fr : Fr) (X : Xb) (av : List Value) (S : Sg) (mi : Mem) (mi2 : Mem) : Prop := Ok d 0 0 fr X av S mi (pV S mi2)
section MWX
variable {X : Xb} {fr : Fr} {R : Room} {kc sl pc : Nat} {L : List (Option Value)} {st st0 : List Value} {S : Sg} {mi : Mem} {Q : Qt}
theorem mw_cVI {d n ci i z idx : Nat} {g : Fr} {As : List Value} {x : Int32} {mi2 : Mem} (hd : decode fr.2.1 pc = .ok (.invokevirtual idx, 3)) (hl : Cond.methodLink fr.1.cls idx g.1 ∈ TW) (hm : MFV g n ci) (hok : OkI d g X (.ref (X.1 + i) :: As) S mi x mi2) (hk : Kd S i ci z) (hn : As.length = n) (hst : st0 = As.reverse ++ .ref (X.1 + i) :: st) (hr : (st.map fun v => v.category).sum ≤ 8) (hR : d + 1 ≤ R.frames ∧ 40 + 40 * d ≤ R.locals) (hc : kc ≤ R.cells ∧ sl ≤ R.slots)
    (kk : MW X fr R kc sl (pc + 3) L (.int x :: st) S mi2 Q) : MW X fr R kc sl pc L st0 S mi Q :=
  mw_callV hd hl hm hok hk hn hst hr hR hc (fun r S' mi' h => by obtain ⟨rfl, rfl, rfl⟩ := h; exact kk)
theorem mw_cVV {d n ci i z idx : Nat} {g : Fr} {As : List Value} {mi2 : Mem} (hd : decode fr.2.1 pc = .ok (.invokevirtual idx, 3)) (hl : Cond.methodLink fr.1.cls idx g.1 ∈ TW) (hm : MFV g n ci) (hok : OkV d g X (.ref (X.1 + i) :: As) S mi mi2) (hk : Kd S i ci z) (hn : As.length = n) (hst : st0 = As.reverse ++ .ref (X.1 + i) :: st) (hr : (st.map fun v => v.category).sum ≤ 8) (hR : d + 1 ≤ R.frames ∧ 40 + 40 * d ≤ R.locals) (hc : kc ≤ R.cells ∧ sl ≤ R.slots)
    (kk : MW X fr R kc sl (pc + 3) L st S mi2 Q) : MW X fr R kc sl pc L st0 S mi Q :=
  mw_callV hd hl hm hok hk hn hst hr hR hc (fun r S' mi' h => by obtain ⟨rfl, rfl, rfl⟩ := h; exact kk)
theorem mw_cSI {d n idx : Nat} {g : Fr} {As : List Value} {x : Int32} {mi2 : Mem} (hd : decode fr.2.1 pc = .ok (.invokestatic idx, 3)) (hl : Cond.methodLink fr.1.cls idx g.1 ∈ TW) (hm : MFS g n) (hok : OkI d g X As S mi x mi2) (hn : As.length = n) (hst : st0 = As.reverse ++ st) (hr : (st.map fun v => v.category).sum ≤ 8) (hR : d + 1 ≤ R.frames ∧ 40 + 40 * d ≤ R.locals) (hc : kc ≤ R.cells ∧ sl ≤ R.slots)
    (kk : MW X fr R kc sl (pc + 3) L (.int x :: st) S mi2 Q) : MW X fr R kc sl pc L st0 S mi Q :=
  mw_callS hd hl hm hok hn hst hr hR hc (fun r S' mi' h => by obtain ⟨rfl, rfl, rfl⟩ := h; exact kk)
theorem mw_cSV {d n idx : Nat} {g : Fr} {As : List Value} {mi2 : Mem} (hd : decode fr.2.1 pc = .ok (.invokestatic idx, 3)) (hl : Cond.methodLink fr.1.cls idx g.1 ∈ TW) (hm : MFS g n) (hok : OkV d g X As S mi mi2) (hn : As.length = n) (hst : st0 = As.reverse ++ st) (hr : (st.map fun v => v.category).sum ≤ 8) (hR : d + 1 ≤ R.frames ∧ 40 + 40 * d ≤ R.locals) (hc : kc ≤ R.cells ∧ sl ≤ R.slots)
    (kk : MW X fr R kc sl (pc + 3) L st S mi2 Q) : MW X fr R kc sl pc L st0 S mi Q :=
  mw_callS hd hl hm hok hn hst hr hR hc (fun r S' mi' h => by obtain ⟨rfl, rfl, rfl⟩ := h; exact kk)
theorem mw_cSNI {d n idx : Nat} {g : Fr} {host : String} {As : List Value} {x : Int32} {mi2 : Mem} (hd : decode fr.2.1 pc = .ok (.invokestatic idx, 3)) (hl : Cond.methodLinkNest fr.1.cls idx g.1 host ∈ nestW) (hm : MFS g n) (hok : OkI d g X As S mi x mi2) (hn : As.length = n) (hst : st0 = As.reverse ++ st) (hr : (st.map fun v => v.category).sum ≤ 8) (hR : d + 1 ≤ R.frames ∧ 40 + 40 * d ≤ R.locals) (hc : kc ≤ R.cells ∧ sl ≤ R.slots)
    (kk : MW X fr R kc sl (pc + 3) L (.int x :: st) S mi2 Q) : MW X fr R kc sl pc L st0 S mi Q :=
  mw_callSN hd hl hm hok hn hst hr hR hc (fun r S' mi' h => by obtain ⟨rfl, rfl, rfl⟩ := h; exact kk)
theorem mw_ialdK {i z k : Nat} {j : Int32} (hd : decode fr.2.1 pc = .ok (.iaload, 1)) (hk : Kd S i 8 z) (hj : j = nI k) (hlt : k < z) (hz : z < 2 ^ 31) (kk : MW X fr R kc sl (pc + 1) L (.int (mi i k) :: st) S mi Q) : MW X fr R kc sl pc L (.int j :: .ref (X.1 + i) :: st) S mi Q := by
  subst hj
  refine mw_iald hd hk (vp_in_nI hlt hz) ?_
  rw [nI_clamp (by omega)]; exact kk
theorem mw_iastK {i z k : Nat} {j v : Int32} (hd : decode fr.2.1 pc = .ok (.iastore, 1)) (hk : Kd S i 8 z) (hj : j = nI k) (hlt : k < z) (hz : z < 2 ^ 31) (kk : MW X fr R kc sl (pc + 1) L st S (m_up mi i k v) Q) : MW X fr R kc sl pc L (.int v :: .int j :: .ref (X.1 + i) :: st) S mi Q := by
  subst hj
  refine mw_iast hd hk (vp_in_nI hlt hz) ?_
  rw [nI_clamp (by omega)]; exact kk
theorem mw_zaldK {i z k : Nat} {j : Int32} (hd : decode fr.2.1 pc = .ok (.baload, 1)) (hk : Kd S i 9 z) (hj : j = nI k) (hlt : k < z) (hz : z < 2 ^ 31) (kk : MW X fr R kc sl (pc + 1) L (.int (mi i k) :: st) S mi Q) : MW X fr R kc sl pc L (.int j :: .ref (X.1 + i) :: st) S mi Q := by
  subst hj
  refine mw_zald hd hk (vp_in_nI hlt hz) ?_
  rw [nI_clamp (by omega)]; exact kk
theorem mw_zastK {i z k : Nat} {j v : Int32} (hd : decode fr.2.1 pc = .ok (.bastore, 1)) (hk : Kd S i 9 z) (hj : j = nI k) (hlt : k < z) (hz : z < 2 ^ 31) (hv : narrow .boolean (.int v) = .int v) (kk : MW X fr R kc sl (pc + 1) L st S (m_up mi i k v) Q) : MW X fr R kc sl pc L (.int v :: .int j :: .ref (X.1 + i) :: st) S mi Q := by
  subst hj
  refine mw_zast hd hk (vp_in_nI hlt hz) hv ?_
  rw [nI_clamp (by omega)]; exact kk
theorem mw_caldK {i z k : Nat} {j : Int32} (hd : decode fr.2.1 pc = .ok (.caload, 1)) (hk : Kd S i 10 z) (hj : j = nI k) (hlt : k < z) (hz : z < 2 ^ 31) (kk : MW X fr R kc sl (pc + 1) L (.int (mi i k) :: st) S mi Q) : MW X fr R kc sl pc L (.int j :: .ref (X.1 + i) :: st) S mi Q := by
  subst hj
  refine mw_cald hd hk (vp_in_nI hlt hz) ?_
  rw [nI_clamp (by omega)]; exact kk
theorem mw_aldK {i c0 z k a : Nat} {j : Int32} (hd : decode fr.2.1 pc = .ok (.aaload, 1)) (hk : Kd S i c0 z) (hc0 : c0 = 11 ∨ c0 = 12 ∨ c0 = 13 ∨ c0 = 14) (hj : j = nI k) (hlt : k < z) (hz : z < 2 ^ 31) (ha : S.2.2 i k = some a) (kk : MW X fr R kc sl (pc + 1) L (.ref (X.1 + a) :: st) S mi Q) : MW X fr R kc sl pc L (.int j :: .ref (X.1 + i) :: st) S mi Q := by
  subst hj
  exact mw_aldr hd hk hc0 (vp_in_nI hlt hz) (by rw [nI_clamp (by omega)]; exact ha) kk
theorem mw_iinc1 {i : Nat} {x : Int32} (hd : decode fr.2.1 pc = .ok (.iinc i 1, 3)) (hl : L[i]? = some (some (.int x))) (hi : i < fr.2.2.1) (k : MW X fr R kc sl (pc + 3) (L.set i (some (.int (x + 1)))) st S mi Q) : MW X fr R kc sl pc L st S mi Q := mw_iinc hd hl hi rfl k
theorem mw_iincK {i k : Nat} {x : Int32} (hd : decode fr.2.1 pc = .ok (.iinc i 1, 3)) (hl : L[i]? = some (some (.int x))) (hx : x = nI k) (hi : i < fr.2.2.1) (kk : MW X fr R kc sl (pc + 3) (L.set i (some (.int (nI (k + 1))))) st S mi Q) : MW X fr R kc sl pc L st S mi Q := by
  subst hx
  exact mw_iinc hd hl hi (nI_1 k) kk
theorem mw_if_eqB {p : Prop} [Decidable p] {off : Int} {tgt : Nat} (hd : decode fr.2.1 pc = .ok (.ifCond .eq off, 3)) (ht : (pc : Int) + off = (tgt : Int)) (kt : ¬ p → MW X fr R kc sl tgt L st S mi Q) (kf : p → MW X fr R kc sl (pc + 3) L st S mi Q) : MW X fr R kc sl pc L (.int (b2i p) :: st) S mi Q :=
  mw_if_eq hd ht (fun h => kt (b2i_eq0.mp h)) (fun h => kf (Classical.not_not.mp fun q => h (b2i_eq0.mpr q)))
theorem mw_if_neB {p : Prop} [Decidable p] {off : Int} {tgt : Nat} (hd : decode fr.2.1 pc = .ok (.ifCond .ne off, 3)) (ht : (pc : Int) + off = (tgt : Int)) (kt : p → MW X fr R kc sl tgt L st S mi Q) (kf : ¬ p → MW X fr R kc sl (pc + 3) L st S mi Q) : MW X fr R kc sl pc L (.int (b2i p) :: st) S mi Q :=
  mw_if_ne hd ht (fun h => kt (Classical.not_not.mp fun q => h (b2i_eq0.mpr q))) (fun h => kf (b2i_eq0.mp h))
theorem mw_bret {mc ms : Nat} {P : Pt3} {v : Int32} (hd : decode fr.2.1 pc = .ok (.ireturn, 1)) (hr : fr.2.2.2 = some .boolean) (hn : v = 0 ∨ v = 1) (h1 : kc ≤ mc) (h2 : sl ≤ ms) (hp : P (some (.int v)) S mi) : MW X fr R kc sl pc L [.int v] S mi (mQ X mc ms P) :=
  mw_zret hd hr (by rcases hn with rfl | rfl <;> decide) h1 h2 hp
end MWX
end
section
section MWS
variable {X : Xb} {fr : Fr} {R : Room} {kc sl pc : Nat} {L : List (Option Value)} {st : List Value} {S : Sg} {mi : Mem} {Q : Qt}
theorem ne_toI {x c : Int32} {n : Int} (hc : c.toInt = n) (h : ¬ x = c) : x.toInt ≠ n := fun q => h (Int32.toInt_inj.mp (q.trans hc.symm))
theorem mw_ts1 {d lo hi : Int} {offs : Array Int} {len : Nat} {x : Int32} (hd : decode fr.2.1 pc = .ok (.tableswitch d lo hi offs, len)) (hsz : offs.size = (hi - lo + 1).toNat) (c : Int32) (tgt : Nat) (ht : tsTo pc d lo hi offs c = (tgt : Int)) (kt : x = c → MW X fr R kc sl tgt L st S mi Q) (kf : ¬ x = c → MW X fr R kc sl pc L (.int x :: st) S mi Q) : MW X fr R kc sl pc L (.int x :: st) S mi Q := by
  by_cases h : x = c
  · exact mw_tsw hd hsz tgt (by rw [h]; exact ht) (kt h)
  · exact kf h
theorem mw_ts0 {d lo hi : Int} {offs : Array Int} {len : Nat} {x : Int32} (hd : decode fr.2.1 pc = .ok (.tableswitch d lo hi offs, len)) (hsz : offs.size = (hi - lo + 1).toNat) (tgt : Nat) (ht : (pc : Int) + d = (tgt : Int)) (hx : x.toInt < lo ∨ hi < x.toInt) (kt : MW X fr R kc sl tgt L st S mi Q) : MW X fr R kc sl pc L (.int x :: st) S mi Q :=
  mw_tsw hd hsz tgt (by unfold tsTo; rw [if_pos hx]; exact ht) kt
theorem mw_ls1 {d : Int} {ps : Array (Int × Int)} {len : Nat} {x : Int32} (hd : decode fr.2.1 pc = .ok (.lookupswitch d ps, len)) (hp : (ps.toList.zip (ps.toList.drop 1)).all (fun (a, next) => a.1 < next.1) = true) (c : Int32) (tgt : Nat) (ht : (pc : Int) + Op.lookupswitch.offset ps.toList d c.toInt = (tgt : Int)) (kt : x = c → MW X fr R kc sl tgt L st S mi Q) (kf : ¬ x = c → MW X fr R kc sl pc L (.int x :: st) S mi Q) : MW X fr R kc sl pc L (.int x :: st) S mi Q := by
  by_cases h : x = c
  · exact mw_lsw hd hp tgt (by rw [h]; exact ht) (kt h)
  · exact kf h
theorem lsw_d (d v : Int) : ∀ (ps : List (Int × Int)), (∀ p ∈ ps, p.1 ≠ v) → Op.lookupswitch.offset ps d v = d
  | [], _ => rfl
  | p :: ps, h => by
    have h1 := h p List.mem_cons_self
    have ih := lsw_d d v ps (fun q hq => h q (List.mem_cons_of_mem _ hq))
    simp [Op.lookupswitch.offset, h1, ih]
theorem mw_ls0 {d : Int} {ps : Array (Int × Int)} {len : Nat} {x : Int32} (hd : decode fr.2.1 pc = .ok (.lookupswitch d ps, len)) (hp : (ps.toList.zip (ps.toList.drop 1)).all (fun (a, next) => a.1 < next.1) = true) (tgt : Nat) (ht : (pc : Int) + d = (tgt : Int)) (hx : ∀ p ∈ ps.toList, p.1 ≠ x.toInt) (kt : MW X fr R kc sl tgt L st S mi Q) : MW X fr R kc sl pc L (.int x :: st) S mi Q :=
  mw_lsw hd hp tgt (by rw [lsw_d _ _ _ hx]; exact ht) kt
end MWS
/-- a way back to a known place: fewer locals known, the rest the same -/
theorem MW.back {X : Xb} {fr : Fr} {R : Room} {kc sl pc : Nat} {L L' : List (Option Value)} {st st' : List Value} {S S' : Sg} {mi mi' : Mem} {Q : Qt} (k : MW X fr R kc sl pc L' st' S' mi' Q) (h : lsub L' L ∧ st = st' ∧ S = S' ∧ mi = mi') : MW X fr R kc sl pc L st S mi Q := by
  obtain ⟨h1, rfl, rfl, rfl⟩ := h
  exact MW.sub h1 k
theorem Ok.go {d mc ms : Nat} {fr : Fr} {X : Xb} {av : List Value} {S : Sg} {mi : Mem} {P : Pt3} (L0 : List (Option Value)) (hy : plainName fr.1.cls = true) (hc : ∀ v ∈ av, v.category = 1) (hn : av.length ≤ fr.2.2.1) (hL0 : lv0 av fr.2.2.1 = L0)
    (h : MW X fr (rmOf d mc ms) 0 0 0 L0 [] S mi (mQ X mc ms P)) : Ok d mc ms fr X av S mi P := Ok.of hy hc hn (by rw [hL0]; exact h)
theorem mw_istN {X : Xb} {fr : Fr} {R : Room} {kc sl pc : Nat} {L : List (Option Value)} {st : List Value} {S : Sg} {mi : Mem} {Q : Qt} {k : Fin 4} {x : Int32} (i : Nat) (hd : decode fr.2.1 pc = .ok (.istore_n k, 1)) (hk : (k : Nat) = i) (hi : i < fr.2.2.1) (kk : MW X fr R kc sl (pc + 1) (L.set i (some (.int x))) st S mi Q) : MW X fr R kc sl pc L (.int x :: st) S mi Q := by
  subst hk; exact mw_istore_n hd hi kk
theorem mw_astN {X : Xb} {fr : Fr} {R : Room} {kc sl pc : Nat} {L : List (Option Value)} {st : List Value} {S : Sg} {mi : Mem} {Q : Qt} {k : Fin 4} {x : Nat} (i : Nat) (hd : decode fr.2.1 pc = .ok (.astore_n k, 1)) (hk : (k : Nat) = i) (hi : i < fr.2.2.1) (kk : MW X fr R kc sl (pc + 1) (L.set i (some (.ref x))) st S mi Q) : MW X fr R kc sl pc L (.ref x :: st) S mi Q := by
  subst hk; exact mw_astore_n hd hi kk
theorem i_ge {k n : Nat} (h : k < n) (hn : n < 2 ^ 31) : ¬ (nI n ≤ nI k) := nI_ge h hn
theorem mw_dn {P : Nat → Prop} (N : Nat) (hend : P N) (hstep : ∀ k, k < N → P (k + 1) → P k) : P 0 := by
  have h : ∀ n k, n + k = N → P k := by
    intro n
    induction n with
    | zero => intro k hk; rw [show k = N by omega]; exact hend
    | succ n ih => intro k hk; exact hstep k (by omega) (ih (k + 1) (by omega))
  exact h N 0 (by omega)
def fld (g : Int32 → Nat → Int32) (z : Int32) : Nat → Int32
  | 0 => z
  | n + 1 => g (fld g z n) n
/-- a row of a cell as a whole -/
def m_row (mi : Mem) (q : Nat) (f : Nat → Int32) : Mem := fun a k => if a = q then f k else mi a k
theorem b2i_01 {p : Prop} [Decidable p] : b2i p = 0 ∨ b2i p = 1 := by unfold b2i; split <;> simp
section MWN
variable {X : Xb} {fr : Fr} {R : Room} {kc sl pc : Nat} {L : List (Option Value)} {st : List Value} {S : Sg} {mi : Mem} {Q : Qt}
theorem mw_astoreN {i : Nat} (hd : decode fr.2.1 pc = .ok (.astore i, 2)) (hi : i < fr.2.2.1) (k : MW X fr R kc sl (pc + 2) (L.set i (some .null)) st S mi Q) : MW X fr R kc sl pc L (.null :: st) S mi Q :=
  fun p l e s m args below meth c H locs ls C hS hP hL => lv_astoreN C.1 C.2.1 hd hL.2.1 hi rfl (fun ls' h => k p l e s m args below meth c H locs ls' C hS hP (Lv.store hL.1 hL.2.2 hi rfl h))
theorem mw_aloadN {i : Nat} (hd : decode fr.2.1 pc = .ok (.aload i, 2)) (hl : L[i]? = some (some .null)) (k : MW X fr R kc sl (pc + 2) L (.null :: st) S mi Q) : MW X fr R kc sl pc L st S mi Q :=
  fun p l e s m args below meth c H locs ls C hS hP hL => lv_aloadN C.1 C.2.1 hd (hL.at hl) (k p l e s m args below meth c H locs ls C hS hP hL)
end MWN
end
section
/-! small methods of the class: helpers, Attic -/
def clampI (v lo hi : Int32) : Int32 := if v < lo then lo else if hi < v then hi else v
def minI (x y : Int32) : Int32 := if y < x then y else x
def maxI (x y : Int32) : Int32 := if x < y then y else x
theorem dX6_within_0 : decode fX6_within.2.1 0 = .ok (.iload_n 0, 1) := by decide +kernel
theorem dX6_within_1 : decode fX6_within.2.1 1 = .ok (.iload_n 1, 1) := by decide +kernel
theorem dX6_within_2 : decode fX6_within.2.1 2 = .ok (.if_icmp .lt 12, 3) := by decide +kernel
theorem dX6_within_5 : decode fX6_within.2.1 5 = .ok (.iload_n 0, 1) := by decide +kernel
theorem dX6_within_6 : decode fX6_within.2.1 6 = .ok (.iload_n 2, 1) := by decide +kernel
theorem dX6_within_7 : decode fX6_within.2.1 7 = .ok (.if_icmp .gt 7, 3) := by decide +kernel
theorem dX6_within_10 : decode fX6_within.2.1 10 = .ok (.iconst 1, 1) := by decide +kernel
theorem dX6_within_11 : decode fX6_within.2.1 11 = .ok (.goto 4, 3) := by decide +kernel
theorem dX6_within_14 : decode fX6_within.2.1 14 = .ok (.iconst 0, 1) := by decide +kernel
theorem dX6_within_15 : decode fX6_within.2.1 15 = .ok (.ireturn, 1) := by decide +kernel
set_option maxRecDepth 100000 in
set_option maxHeartbeats 4000000 in
theorem ok_X6_within {X : Xb} {S : Sg} {mi : Mem} {v lo hi : Int32} : OkI 0 fX6_within X [.int v, .int lo, .int hi] S mi (b2i (lo ≤ v ∧ v ≤ hi)) mi := by
  refine Ok.go [some (.int v), some (.int lo), some (.int hi)] (by decide) (by simp [Value.category]) (Nat.le_of_ble_eq_true rfl) rfl ?_
  refine mw_iload_n dX6_within_0 rfl ?_
  refine mw_iload_n dX6_within_1 rfl ?_
  refine mw_icmp_lt (tgt := 14) dX6_within_2 (by decide) (fun h2 => ?_) (fun h2 => ?_)
  · skip
    refine mw_iconst (v := 0) dX6_within_14 (by decide) ?_
    exact mw_bret dX6_within_15 rfl (by first | exact Or.inl rfl | exact Or.inr rfl | exact b2i_01) (by decide) (by decide) (⟨by grind [b2i], rfl, rfl⟩)
  · skip
    refine mw_iload_n dX6_within_5 rfl ?_
    refine mw_iload_n dX6_within_6 rfl ?_
    refine mw_icmp_gt (tgt := 14) dX6_within_7 (by decide) (fun h7 => ?_) (fun h7 => ?_)
    · skip
      refine mw_iconst (v := 0) dX6_within_14 (by decide) ?_
      exact mw_bret dX6_within_15 rfl (by first | exact Or.inl rfl | exact Or.inr rfl | exact b2i_01) (by decide) (by decide) (⟨by grind [b2i], rfl, rfl⟩)
    · skip
      refine mw_iconst (v := 1) dX6_within_10 (by decide) ?_
      refine mw_goto (tgt := 15) dX6_within_11 (by decide) ?_
      exact mw_bret dX6_within_15 rfl (by first | exact Or.inl rfl | exact Or.inr rfl | exact b2i_01) (by decide) (by decide) (⟨by grind [b2i], rfl, rfl⟩)
theorem dX6_held_0 : decode fX6_held.2.1 0 = .ok (.iconst 0, 1) := by decide +kernel
theorem dX6_held_1 : decode fX6_held.2.1 1 = .ok (.iload_n 1, 1) := by decide +kernel
theorem dX6_held_2 : decode fX6_held.2.1 2 = .ok (.iload_n 0, 1) := by decide +kernel
theorem dX6_held_3 : decode fX6_held.2.1 3 = .ok (.invokestatic 133, 3) := by decide +kernel
theorem dX6_held_6 : decode fX6_held.2.1 6 = .ok (.invokestatic 304, 3) := by decide +kernel
theorem dX6_held_9 : decode fX6_held.2.1 9 = .ok (.ireturn, 1) := by decide +kernel
set_option maxRecDepth 100000 in
set_option maxHeartbeats 4000000 in
theorem ok_X6_held {X : Xb} {S : Sg} {mi : Mem} {v hi : Int32} : OkI 1 fX6_held X [.int v, .int hi] S mi (maxI 0 (minI hi v)) mi := by
  refine Ok.go [some (.int v), some (.int hi)] (by decide) (by simp [Value.category]) (Nat.le_of_ble_eq_true rfl) rfl ?_
  refine mw_iconst (v := 0) dX6_held_0 (by decide) ?_
  refine mw_iload_n dX6_held_1 rfl ?_
  refine mw_iload_n dX6_held_2 rfl ?_
  refine mw_mmin dX6_held_3 ml_X6_133 (Nat.le_of_ble_eq_true rfl) ⟨by decide, by decide⟩ ⟨by decide, by decide⟩ ?_
  refine mw_mmax dX6_held_6 ml_X6_304 (Nat.le_of_ble_eq_true rfl) ⟨by decide, by decide⟩ ⟨by decide, by decide⟩ ?_
  exact mw_iret dX6_held_9 rfl (by decide) (by decide) (⟨rfl, rfl, rfl⟩)
theorem dX0_pay_0 : decode fX0_pay.2.1 0 = .ok (.aload_n 0, 1) := by decide +kernel
theorem dX0_pay_1 : decode fX0_pay.2.1 1 = .ok (.getfield 21, 3) := by decide +kernel
theorem dX0_pay_4 : decode fX0_pay.2.1 4 = .ok (.iload_n 1, 1) := by decide +kernel
theorem dX0_pay_5 : decode fX0_pay.2.1 5 = .ok (.invokestatic 35, 3) := by decide +kernel
theorem dX0_pay_8 : decode fX0_pay.2.1 8 = .ok (.istore_n 2, 1) := by decide +kernel
theorem dX0_pay_9 : decode fX0_pay.2.1 9 = .ok (.aload_n 0, 1) := by decide +kernel
theorem dX0_pay_10 : decode fX0_pay.2.1 10 = .ok (.dup, 1) := by decide +kernel
theorem dX0_pay_11 : decode fX0_pay.2.1 11 = .ok (.getfield 21, 3) := by decide +kernel
theorem dX0_pay_14 : decode fX0_pay.2.1 14 = .ok (.iload_n 2, 1) := by decide +kernel
theorem dX0_pay_15 : decode fX0_pay.2.1 15 = .ok (.isub, 1) := by decide +kernel
theorem dX0_pay_16 : decode fX0_pay.2.1 16 = .ok (.putfield 21, 3) := by decide +kernel
theorem dX0_pay_19 : decode fX0_pay.2.1 19 = .ok (.aload_n 0, 1) := by decide +kernel
theorem dX0_pay_20 : decode fX0_pay.2.1 20 = .ok (.sipush 9999, 3) := by decide +kernel
theorem dX0_pay_23 : decode fX0_pay.2.1 23 = .ok (.aload_n 0, 1) := by decide +kernel
theorem dX0_pay_24 : decode fX0_pay.2.1 24 = .ok (.getfield 24, 3) := by decide +kernel
theorem dX0_pay_27 : decode fX0_pay.2.1 27 = .ok (.iload_n 1, 1) := by decide +kernel
theorem dX0_pay_28 : decode fX0_pay.2.1 28 = .ok (.iadd, 1) := by decide +kernel
theorem dX0_pay_29 : decode fX0_pay.2.1 29 = .ok (.iload_n 2, 1) := by decide +kernel
theorem dX0_pay_30 : decode fX0_pay.2.1 30 = .ok (.isub, 1) := by decide +kernel
theorem dX0_pay_31 : decode fX0_pay.2.1 31 = .ok (.invokestatic 35, 3) := by decide +kernel
theorem dX0_pay_34 : decode fX0_pay.2.1 34 = .ok (.putfield 24, 3) := by decide +kernel
theorem dX0_pay_37 : decode fX0_pay.2.1 37 = .ok (.iload_n 2, 1) := by decide +kernel
theorem dX0_pay_38 : decode fX0_pay.2.1 38 = .ok (.ireturn, 1) := by decide +kernel
set_option maxRecDepth 100000 in
set_option maxHeartbeats 4000000 in
theorem ok_X0_pay {X : Xb} {S : Sg} {mi : Mem} {a : Nat} {rent : Int32} (ha : Kd S a 0 0) : OkI 1 fX0_pay X [rf X a, .int rent] S mi (minI (mi a 3) rent) (m_up (m_up mi a 3 (mi a 3 - minI (mi a 3) rent)) a 4 (minI 9999 (mi a 4 + rent - minI (mi a 3) rent))) := by
  refine Ok.go [some (rf X a), some (.int rent), none] (by decide) (by simp [Value.category]) (Nat.le_of_ble_eq_true rfl) rfl ?_
  refine mw_aload_n dX0_pay_0 rfl ?_
  refine mw_geti dX0_pay_1 fl_X0_21 rfl (by assumption) ?_
  refine mw_iload_n dX0_pay_4 rfl ?_
  refine mw_mmin dX0_pay_5 ml_X0_35 (Nat.le_of_ble_eq_true rfl) ⟨by decide, by decide⟩ ⟨by decide, by decide⟩ ?_
  refine mw_istN 2 dX0_pay_8 rfl (by decide) ?_
  refine mw_aload_n dX0_pay_9 rfl ?_
  refine mw_dup dX0_pay_10 rfl ?_
  refine mw_geti dX0_pay_11 fl_X0_21 rfl (by assumption) ?_
  refine mw_iload_n dX0_pay_14 rfl ?_
  refine mw_isub dX0_pay_15 ?_
  refine mw_puti dX0_pay_16 fl_X0_21 ft_0_3 rfl (rfl) rfl (by assumption) ?_
  refine mw_aload_n dX0_pay_19 rfl ?_
  refine mw_sipush (v := 9999) dX0_pay_20 (by decide) ?_
  refine mw_aload_n dX0_pay_23 rfl ?_
  refine mw_geti dX0_pay_24 fl_X0_24 rfl (by assumption) ?_
  refine mw_iload_n dX0_pay_27 rfl ?_
  refine mw_iadd dX0_pay_28 ?_
  refine mw_iload_n dX0_pay_29 rfl ?_
  refine mw_isub dX0_pay_30 ?_
  refine mw_mmin dX0_pay_31 ml_X0_35 (Nat.le_of_ble_eq_true rfl) ⟨by decide, by decide⟩ ⟨by decide, by decide⟩ ?_
  refine mw_puti dX0_pay_34 fl_X0_24 ft_0_4 rfl (rfl) rfl (by assumption) ?_
  refine mw_iload_n dX0_pay_37 rfl ?_
  exact mw_iret dX0_pay_38 rfl (by decide) (by decide) (⟨rfl, rfl, by simp [m_up, minI]; rfl⟩)
theorem dX0_earn_0 : decode fX0_earn.2.1 0 = .ok (.aload_n 0, 1) := by decide +kernel
theorem dX0_earn_1 : decode fX0_earn.2.1 1 = .ok (.sipush 9999, 3) := by decide +kernel
theorem dX0_earn_4 : decode fX0_earn.2.1 4 = .ok (.aload_n 0, 1) := by decide +kernel
theorem dX0_earn_5 : decode fX0_earn.2.1 5 = .ok (.getfield 21, 3) := by decide +kernel
theorem dX0_earn_8 : decode fX0_earn.2.1 8 = .ok (.iload_n 1, 1) := by decide +kernel
theorem dX0_earn_9 : decode fX0_earn.2.1 9 = .ok (.iadd, 1) := by decide +kernel
theorem dX0_earn_10 : decode fX0_earn.2.1 10 = .ok (.invokestatic 35, 3) := by decide +kernel
theorem dX0_earn_13 : decode fX0_earn.2.1 13 = .ok (.putfield 21, 3) := by decide +kernel
theorem dX0_earn_16 : decode fX0_earn.2.1 16 = .ok (.return_, 1) := by decide +kernel
set_option maxRecDepth 100000 in
set_option maxHeartbeats 4000000 in
theorem ok_X0_earn {X : Xb} {S : Sg} {mi : Mem} {a : Nat} {w : Int32} (ha : Kd S a 0 0) : OkV 1 fX0_earn X [rf X a, .int w] S mi (m_up mi a 3 (minI 9999 (mi a 3 + w))) := by
  refine Ok.go [some (rf X a), some (.int w)] (by decide) (by simp [Value.category]) (Nat.le_of_ble_eq_true rfl) rfl ?_
  refine mw_aload_n dX0_earn_0 rfl ?_
  refine mw_sipush (v := 9999) dX0_earn_1 (by decide) ?_
  refine mw_aload_n dX0_earn_4 rfl ?_
  refine mw_geti dX0_earn_5 fl_X0_21 rfl (by assumption) ?_
  refine mw_iload_n dX0_earn_8 rfl ?_
  refine mw_iadd dX0_earn_9 ?_
  refine mw_mmin dX0_earn_10 ml_X0_35 (Nat.le_of_ble_eq_true rfl) ⟨by decide, by decide⟩ ⟨by decide, by decide⟩ ?_
  refine mw_puti dX0_earn_13 fl_X0_21 ft_0_3 rfl (rfl) rfl (by assumption) ?_
  exact mw_vret dX0_earn_16 rfl (by decide) (by decide) (⟨rfl, rfl, rfl⟩)
theorem dX0_renew_0 : decode fX0_renew.2.1 0 = .ok (.aload_n 0, 1) := by decide +kernel
theorem dX0_renew_1 : decode fX0_renew.2.1 1 = .ok (.iload_n 1, 1) := by decide +kernel
theorem dX0_renew_2 : decode fX0_renew.2.1 2 = .ok (.putfield 9, 3) := by decide +kernel
theorem dX0_renew_5 : decode fX0_renew.2.1 5 = .ok (.aload_n 0, 1) := by decide +kernel
theorem dX0_renew_6 : decode fX0_renew.2.1 6 = .ok (.iload_n 2, 1) := by decide +kernel
theorem dX0_renew_7 : decode fX0_renew.2.1 7 = .ok (.putfield 15, 3) := by decide +kernel
theorem dX0_renew_10 : decode fX0_renew.2.1 10 = .ok (.aload_n 0, 1) := by decide +kernel
theorem dX0_renew_11 : decode fX0_renew.2.1 11 = .ok (.iload_n 3, 1) := by decide +kernel
theorem dX0_renew_12 : decode fX0_renew.2.1 12 = .ok (.putfield 18, 3) := by decide +kernel
theorem dX0_renew_15 : decode fX0_renew.2.1 15 = .ok (.aload_n 0, 1) := by decide +kernel
theorem dX0_renew_16 : decode fX0_renew.2.1 16 = .ok (.iconst 0, 1) := by decide +kernel
theorem dX0_renew_17 : decode fX0_renew.2.1 17 = .ok (.putfield 21, 3) := by decide +kernel
theorem dX0_renew_20 : decode fX0_renew.2.1 20 = .ok (.aload_n 0, 1) := by decide +kernel
theorem dX0_renew_21 : decode fX0_renew.2.1 21 = .ok (.iconst 0, 1) := by decide +kernel
theorem dX0_renew_22 : decode fX0_renew.2.1 22 = .ok (.putfield 24, 3) := by decide +kernel
theorem dX0_renew_25 : decode fX0_renew.2.1 25 = .ok (.return_, 1) := by decide +kernel
set_option maxRecDepth 100000 in
set_option maxHeartbeats 4000000 in
theorem ok_X0_renew {X : Xb} {S : Sg} {mi : Mem} {a : Nat} {k f w : Int32} (ha : Kd S a 0 0) : OkV 0 fX0_renew X [rf X a, .int k, .int f, .int w] S mi (m_up (m_up (m_up (m_up (m_up mi a 0 k) a 1 f) a 2 w) a 3 0) a 4 0) := by
  refine Ok.go [some (rf X a), some (.int k), some (.int f), some (.int w)] (by decide) (by simp [Value.category]) (Nat.le_of_ble_eq_true rfl) rfl ?_
  refine mw_aload_n dX0_renew_0 rfl ?_
  refine mw_iload_n dX0_renew_1 rfl ?_
  refine mw_puti dX0_renew_2 fl_X0_9 ft_0_0 rfl (rfl) rfl (by assumption) ?_
  refine mw_aload_n dX0_renew_5 rfl ?_
  refine mw_iload_n dX0_renew_6 rfl ?_
  refine mw_puti dX0_renew_7 fl_X0_15 ft_0_1 rfl (rfl) rfl (by assumption) ?_
  refine mw_aload_n dX0_renew_10 rfl ?_
  refine mw_iload_n dX0_renew_11 rfl ?_
  refine mw_puti dX0_renew_12 fl_X0_18 ft_0_2 rfl (rfl) rfl (by assumption) ?_
  refine mw_aload_n dX0_renew_15 rfl ?_
  refine mw_iconst (v := 0) dX0_renew_16 (by decide) ?_
  refine mw_puti dX0_renew_17 fl_X0_21 ft_0_3 rfl (rfl) rfl (by assumption) ?_
  refine mw_aload_n dX0_renew_20 rfl ?_
  refine mw_iconst (v := 0) dX0_renew_21 (by decide) ?_
  refine mw_puti dX0_renew_22 fl_X0_24 ft_0_4 rfl (rfl) rfl (by assumption) ?_
  exact mw_vret dX0_renew_25 rfl (by decide) (by decide) (⟨rfl, rfl, rfl⟩)
theorem dX0_takeAfter_0 : decode fX0_takeAfter.2.1 0 = .ok (.aload_n 0, 1) := by decide +kernel
theorem dX0_takeAfter_1 : decode fX0_takeAfter.2.1 1 = .ok (.aload_n 1, 1) := by decide +kernel
theorem dX0_takeAfter_2 : decode fX0_takeAfter.2.1 2 = .ok (.getfield 9, 3) := by decide +kernel
theorem dX0_takeAfter_5 : decode fX0_takeAfter.2.1 5 = .ok (.putfield 9, 3) := by decide +kernel
theorem dX0_takeAfter_8 : decode fX0_takeAfter.2.1 8 = .ok (.aload_n 0, 1) := by decide +kernel
theorem dX0_takeAfter_9 : decode fX0_takeAfter.2.1 9 = .ok (.aload_n 1, 1) := by decide +kernel
theorem dX0_takeAfter_10 : decode fX0_takeAfter.2.1 10 = .ok (.getfield 15, 3) := by decide +kernel
theorem dX0_takeAfter_13 : decode fX0_takeAfter.2.1 13 = .ok (.putfield 15, 3) := by decide +kernel
theorem dX0_takeAfter_16 : decode fX0_takeAfter.2.1 16 = .ok (.aload_n 0, 1) := by decide +kernel
theorem dX0_takeAfter_17 : decode fX0_takeAfter.2.1 17 = .ok (.aload_n 1, 1) := by decide +kernel
theorem dX0_takeAfter_18 : decode fX0_takeAfter.2.1 18 = .ok (.getfield 18, 3) := by decide +kernel
theorem dX0_takeAfter_21 : decode fX0_takeAfter.2.1 21 = .ok (.putfield 18, 3) := by decide +kernel
theorem dX0_takeAfter_24 : decode fX0_takeAfter.2.1 24 = .ok (.aload_n 0, 1) := by decide +kernel
theorem dX0_takeAfter_25 : decode fX0_takeAfter.2.1 25 = .ok (.aload_n 1, 1) := by decide +kernel
theorem dX0_takeAfter_26 : decode fX0_takeAfter.2.1 26 = .ok (.getfield 21, 3) := by decide +kernel
theorem dX0_takeAfter_29 : decode fX0_takeAfter.2.1 29 = .ok (.putfield 21, 3) := by decide +kernel
theorem dX0_takeAfter_32 : decode fX0_takeAfter.2.1 32 = .ok (.aload_n 0, 1) := by decide +kernel
theorem dX0_takeAfter_33 : decode fX0_takeAfter.2.1 33 = .ok (.aload_n 1, 1) := by decide +kernel
theorem dX0_takeAfter_34 : decode fX0_takeAfter.2.1 34 = .ok (.getfield 24, 3) := by decide +kernel
theorem dX0_takeAfter_37 : decode fX0_takeAfter.2.1 37 = .ok (.putfield 24, 3) := by decide +kernel
theorem dX0_takeAfter_40 : decode fX0_takeAfter.2.1 40 = .ok (.return_, 1) := by decide +kernel
set_option maxRecDepth 100000 in
set_option maxHeartbeats 4000000 in
theorem ok_X0_takeAfter {X : Xb} {S : Sg} {mi : Mem} {a b : Nat} (ha : Kd S a 0 0) (hb : Kd S b 0 0) (hab : a ≠ b) : OkV 0 fX0_takeAfter X [rf X a, rf X b] S mi (m_up (m_up (m_up (m_up (m_up mi a 0 (mi b 0)) a 1 (mi b 1)) a 2 (mi b 2)) a 3 (mi b 3)) a 4 (mi b 4)) := by
  refine Ok.go [some (rf X a), some (rf X b)] (by decide) (by simp [Value.category]) (Nat.le_of_ble_eq_true rfl) rfl ?_
  refine mw_aload_n dX0_takeAfter_0 rfl ?_
  refine mw_aload_n dX0_takeAfter_1 rfl ?_
  refine mw_geti dX0_takeAfter_2 fl_X0_9 rfl (by assumption) ?_
  refine mw_puti dX0_takeAfter_5 fl_X0_9 ft_0_0 rfl (rfl) rfl (by assumption) ?_
  refine mw_aload_n dX0_takeAfter_8 rfl ?_
  refine mw_aload_n dX0_takeAfter_9 rfl ?_
  refine mw_geti dX0_takeAfter_10 fl_X0_15 rfl (by assumption) ?_
  refine mw_puti dX0_takeAfter_13 fl_X0_15 ft_0_1 rfl (rfl) rfl (by assumption) ?_
  refine mw_aload_n dX0_takeAfter_16 rfl ?_
  refine mw_aload_n dX0_takeAfter_17 rfl ?_
  refine mw_geti dX0_takeAfter_18 fl_X0_18 rfl (by assumption) ?_
  refine mw_puti dX0_takeAfter_21 fl_X0_18 ft_0_2 rfl (rfl) rfl (by assumption) ?_
  refine mw_aload_n dX0_takeAfter_24 rfl ?_
  refine mw_aload_n dX0_takeAfter_25 rfl ?_
  refine mw_geti dX0_takeAfter_26 fl_X0_21 rfl (by assumption) ?_
  refine mw_puti dX0_takeAfter_29 fl_X0_21 ft_0_3 rfl (rfl) rfl (by assumption) ?_
  refine mw_aload_n dX0_takeAfter_32 rfl ?_
  refine mw_aload_n dX0_takeAfter_33 rfl ?_
  refine mw_geti dX0_takeAfter_34 fl_X0_24 rfl (by assumption) ?_
  refine mw_puti dX0_takeAfter_37 fl_X0_24 ft_0_4 rfl (rfl) rfl (by assumption) ?_
  exact mw_vret dX0_takeAfter_40 rfl (by decide) (by decide) (⟨rfl, rfl, by simp [m_up, Ne.symm hab]⟩)
end
section
/-! where things lie -/
def TwA (S : Sg) (t : Nat) : Prop := Kd S t 5 0 ∧ (S.2.2 t 0 = some (t + 1) ∧ Kd S (t + 1) 8 8) ∧ (S.2.2 t 1 = some (t + 2) ∧ Kd S (t + 2) 8 8) ∧ (S.2.2 t 2 = some (t + 3) ∧ Kd S (t + 3) 11 8) ∧ (S.2.2 t 12 = some (t + 4) ∧ Kd S (t + 4) 14 14) ∧ (S.2.2 t 14 = some (t + 5) ∧ Kd S (t + 5) 8 3) ∧ (S.2.2 t 15 = some (t + 6) ∧ Kd S (t + 6) 8 4) ∧ (S.2.2 t 16 = some (t + 7) ∧ Kd S (t + 7) 8 96) ∧ (S.2.2 t 17 = some (t + 8) ∧ Kd S (t + 8) 8 8) ∧ ∀ i, i < 8 → S.2.2 (t + 3) i = some (t + 9 + i) ∧ Kd S (t + 9 + i) 0 0
def MdA (S : Sg) (o : Nat) : Prop := Kd S o 7 0 ∧ (S.2.2 o 0 = some (o + 1) ∧ Kd S (o + 1) 8 1438) ∧ (S.2.2 o 1 = some (o + 2) ∧ Kd S (o + 2) 8 1438) ∧ (S.2.2 o 2 = some (o + 3) ∧ Kd S (o + 3) 8 1438) ∧ (S.2.2 o 4 = some (o + 4) ∧ Kd S (o + 4) 8 8) ∧ (S.2.2 o 5 = some (o + 5) ∧ Kd S (o + 5) 8 8) ∧ (S.2.2 o 6 = some (o + 6) ∧ Kd S (o + 6) 8 96) ∧ (S.2.2 o 14 = some (o + 7) ∧ Kd S (o + 7) 10 11) ∧ (S.2.2 o 15 = some (o + 8) ∧ Kd S (o + 8) 8 4) ∧ (S.2.2 o 16 = some (o + 9) ∧ Kd S (o + 9) 8 96) ∧ (S.2.2 o 19 = some (o + 10) ∧ Kd S (o + 10) 8 96) ∧ (S.2.2 o 21 = some (o + 11) ∧ Kd S (o + 11) 9 10) ∧ (S.2.2 o 22 = some (o + 12) ∧ Kd S (o + 12) 8 96) ∧ (S.2.2 o 23 = some (o + 13) ∧ Kd S (o + 13) 8 4) ∧ (S.2.2 o 24 = some (o + 14) ∧ Kd S (o + 14) 8 4) ∧ (S.2.2 o 25 = some (o + 15) ∧ Kd S (o + 15) 8 4) ∧ (S.2.2 o 26 = some (o + 16) ∧ Kd S (o + 16) 8 96) ∧ (S.2.2 o 27 = some (o + 17) ∧ Kd S (o + 17) 8 5) ∧ (S.2.2 o 28 = some (o + 18) ∧ Kd S (o + 18) 8 5) ∧ (S.2.2 o 29 = some (o + 19) ∧ Kd S (o + 19) 8 5) ∧ (S.2.2 o 30 = some (o + 20) ∧ Kd S (o + 20) 8 120) ∧ (S.2.2 o 31 = some (o + 21) ∧ Kd S (o + 21) 8 24) ∧ (S.2.2 o 32 = some (o + 22) ∧ Kd S (o + 22) 8 60)
def TpA (S : Sg) (q : Nat) : Prop := Kd S q 3 0 ∧ (S.2.2 q 0 = some (q + 1) ∧ Kd S (q + 1) 8 96) ∧ (S.2.2 q 9 = some (q + 2) ∧ Kd S (q + 2) 8 96)
def ShA (S : Sg) (q : Nat) : Prop := Kd S q 1 0 ∧ (S.2.2 q 0 = some (q + 1) ∧ Kd S (q + 1) 8 24)
def SlA (S : Sg) (q : Nat) : Prop := Kd S q 2 0 ∧ (S.2.2 q 1 = some (q + 1) ∧ Kd S (q + 1) 0 0) ∧ (S.2.2 q 2 = some (q + 2) ∧ ShA S (q + 2))
def AsA (S : Sg) (x : Nat) : Prop := Kd S x 6 0 ∧ (S.2.2 x 0 = some (x + 1) ∧ TwA S (x + 1)) ∧ (S.2.2 x 1 = some (x + 18) ∧ TwA S (x + 18)) ∧ (S.2.2 x 2 = some (x + 35) ∧ TwA S (x + 35)) ∧ (S.2.2 x 4 = some (x + 52) ∧ TpA S (x + 52)) ∧ (S.2.2 x 5 = some (x + 55) ∧ Kd S (x + 55) 12 4) ∧ (S.2.2 x 6 = some (x + 56) ∧ Kd S (x + 56) 13 5) ∧ (S.2.2 x 7 = some (x + 57) ∧ Kd S (x + 57) 8 60) ∧ (S.2.2 x 9 = some (x + 58) ∧ Kd S (x + 58) 8 8) ∧ (∀ i, i < 4 → S.2.2 (x + 55) i = some (x + 59 + 2 * i) ∧ ShA S (x + 59 + 2 * i)) ∧ (∀ i, i < 5 → S.2.2 (x + 56) i = some (x + 67 + 4 * i) ∧ SlA S (x + 67 + 4 * i))
end
section
/-! Town: what it reads -/
def sWide (hour kind width : Int32) : Int32 := if kind = 1 ∨ kind = 3 then width / 2 + 1 else if kind = 2 then width + 2 else if kind = 4 then minI 24 (2 * (width + 2)) else if kind = 5 then (if jr hour 2 = 0 then width else 0) else width
def sHide (chim kind : Int32) : Int32 := if kind = 2 then chim &&& 11184810 else if kind = 4 then 0 else chim
def nz1 (z : Int32) : Int32 := z * 1103515245 + 12345
theorem dX5_draw_0 : decode fX5_draw.2.1 0 = .ok (.aload_n 0, 1) := by decide +kernel
theorem dX5_draw_1 : decode fX5_draw.2.1 1 = .ok (.aload_n 0, 1) := by decide +kernel
theorem dX5_draw_2 : decode fX5_draw.2.1 2 = .ok (.getfield 31, 3) := by decide +kernel
theorem dX5_draw_5 : decode fX5_draw.2.1 5 = .ok (.ldc 100, 2) := by decide +kernel
theorem dX5_draw_7 : decode fX5_draw.2.1 7 = .ok (.imul, 1) := by decide +kernel
theorem dX5_draw_8 : decode fX5_draw.2.1 8 = .ok (.sipush 12345, 3) := by decide +kernel
theorem dX5_draw_11 : decode fX5_draw.2.1 11 = .ok (.iadd, 1) := by decide +kernel
theorem dX5_draw_12 : decode fX5_draw.2.1 12 = .ok (.putfield 31, 3) := by decide +kernel
theorem dX5_draw_15 : decode fX5_draw.2.1 15 = .ok (.aload_n 0, 1) := by decide +kernel
theorem dX5_draw_16 : decode fX5_draw.2.1 16 = .ok (.getfield 31, 3) := by decide +kernel
theorem dX5_draw_19 : decode fX5_draw.2.1 19 = .ok (.bipush 8, 2) := by decide +kernel
theorem dX5_draw_21 : decode fX5_draw.2.1 21 = .ok (.iushr, 1) := by decide +kernel
theorem dX5_draw_22 : decode fX5_draw.2.1 22 = .ok (.ireturn, 1) := by decide +kernel
set_option maxRecDepth 100000 in
set_option maxHeartbeats 4000000 in
theorem ok_X5_draw {X : Xb} {S : Sg} {mi : Mem} {t : Nat} (hT : TwA S t) : OkI 0 fX5_draw X [rf X t] S mi (jus (nz1 (mi t 11)) 8) (m_up mi t 11 (nz1 (mi t 11))) := by
  refine Ok.go [some (rf X t)] (by decide) (by simp [Value.category]) (Nat.le_of_ble_eq_true rfl) rfl ?_
  obtain ⟨k_t, ⟨r_t_home, k_t_home⟩, ⟨r_t_price, k_t_price⟩, ⟨r_t_attics, k_t_attics⟩, ⟨r_t_texts, k_t_texts⟩, ⟨r_t_counting, k_t_counting⟩, ⟨r_t_names, k_t_names⟩, ⟨r_t_pile, k_t_pile⟩, ⟨r_t_views, k_t_views⟩, a_t⟩ := id hT
  refine mw_aload_n dX5_draw_0 rfl ?_
  refine mw_aload_n dX5_draw_1 rfl ?_
  refine mw_geti dX5_draw_2 fl_X5_31 rfl (by assumption) ?_
  refine mw_ldc dX5_draw_5 cn_X5_100 ?_
  refine mw_imul dX5_draw_7 ?_
  refine mw_sipush (v := 12345) dX5_draw_8 (by decide) ?_
  refine mw_iadd dX5_draw_11 ?_
  refine mw_puti dX5_draw_12 fl_X5_31 ft_5_11 rfl (rfl) rfl (by assumption) ?_
  refine mw_aload_n dX5_draw_15 rfl ?_
  refine mw_geti dX5_draw_16 fl_X5_31 rfl (by assumption) ?_
  refine mw_bipush (v := 8) dX5_draw_19 (by decide) ?_
  refine mw_iushr dX5_draw_21 ?_
  exact mw_iret dX5_draw_22 rfl (by decide) (by decide) (⟨by simp [m_up, nz1], rfl, rfl⟩)
theorem dX5_bearingOf_0 : decode fX5_bearingOf.2.1 0 = .ok (.aload_n 0, 1) := by decide +kernel
theorem dX5_bearingOf_1 : decode fX5_bearingOf.2.1 1 = .ok (.getfield 9, 3) := by decide +kernel
theorem dX5_bearingOf_4 : decode fX5_bearingOf.2.1 4 = .ok (.iload_n 1, 1) := by decide +kernel
theorem dX5_bearingOf_5 : decode fX5_bearingOf.2.1 5 = .ok (.iaload, 1) := by decide +kernel
theorem dX5_bearingOf_6 : decode fX5_bearingOf.2.1 6 = .ok (.aload_n 0, 1) := by decide +kernel
theorem dX5_bearingOf_7 : decode fX5_bearingOf.2.1 7 = .ok (.getfield 78, 3) := by decide +kernel
theorem dX5_bearingOf_10 : decode fX5_bearingOf.2.1 10 = .ok (.iadd, 1) := by decide +kernel
theorem dX5_bearingOf_11 : decode fX5_bearingOf.2.1 11 = .ok (.bipush 24, 2) := by decide +kernel
theorem dX5_bearingOf_13 : decode fX5_bearingOf.2.1 13 = .ok (.irem, 1) := by decide +kernel
theorem dX5_bearingOf_14 : decode fX5_bearingOf.2.1 14 = .ok (.ireturn, 1) := by decide +kernel
set_option maxRecDepth 100000 in
set_option maxHeartbeats 4000000 in
theorem ok_X5_bearingOf {X : Xb} {S : Sg} {mi : Mem} {t k : Nat} (hT : TwA S t) (hk : k < 8) : OkI 0 fX5_bearingOf X [rf X t, .int (nI k)] S mi (jr (mi (t + 1) k + mi t 10) 24) mi := by
  refine Ok.go [some (rf X t), some (.int (nI k))] (by decide) (by simp [Value.category]) (Nat.le_of_ble_eq_true rfl) rfl ?_
  obtain ⟨k_t, ⟨r_t_home, k_t_home⟩, ⟨r_t_price, k_t_price⟩, ⟨r_t_attics, k_t_attics⟩, ⟨r_t_texts, k_t_texts⟩, ⟨r_t_counting, k_t_counting⟩, ⟨r_t_names, k_t_names⟩, ⟨r_t_pile, k_t_pile⟩, ⟨r_t_views, k_t_views⟩, a_t⟩ := id hT
  refine mw_aload_n dX5_bearingOf_0 rfl ?_
  refine mw_getr dX5_bearingOf_1 fl_X5_9 rfl (by assumption) (by assumption) ?_
  refine mw_iload_n dX5_bearingOf_4 rfl ?_
  refine mw_ialdK (k := k) dX5_bearingOf_5 (by assumption) (rfl) (hk) (by decide) ?_
  refine mw_aload_n dX5_bearingOf_6 rfl ?_
  refine mw_geti dX5_bearingOf_7 fl_X5_78 rfl (by assumption) ?_
  refine mw_iadd dX5_bearingOf_10 ?_
  refine mw_bipush (v := 24) dX5_bearingOf_11 (by decide) ?_
  refine mw_irem dX5_bearingOf_13 (by decide) ?_
  exact mw_iret dX5_bearingOf_14 rfl (by decide) (by decide) (⟨rfl, rfl, rfl⟩)
theorem dX5_wideOf_0 : decode fX5_wideOf.2.1 0 = .ok (.aload_n 1, 1) := by decide +kernel
theorem dX5_wideOf_1 : decode fX5_wideOf.2.1 1 = .ok (.getfield 120, 3) := by decide +kernel
theorem dX5_wideOf_4 : decode fX5_wideOf.2.1 4 = .ok (.tableswitch 84 1 5 #[36, 45, 36, 52, 66], 36) := by decide +kernel
theorem dX5_wideOf_40 : decode fX5_wideOf.2.1 40 = .ok (.aload_n 1, 1) := by decide +kernel
theorem dX5_wideOf_41 : decode fX5_wideOf.2.1 41 = .ok (.getfield 123, 3) := by decide +kernel
theorem dX5_wideOf_44 : decode fX5_wideOf.2.1 44 = .ok (.iconst 2, 1) := by decide +kernel
theorem dX5_wideOf_45 : decode fX5_wideOf.2.1 45 = .ok (.idiv, 1) := by decide +kernel
theorem dX5_wideOf_46 : decode fX5_wideOf.2.1 46 = .ok (.iconst 1, 1) := by decide +kernel
theorem dX5_wideOf_47 : decode fX5_wideOf.2.1 47 = .ok (.iadd, 1) := by decide +kernel
theorem dX5_wideOf_48 : decode fX5_wideOf.2.1 48 = .ok (.ireturn, 1) := by decide +kernel
theorem dX5_wideOf_49 : decode fX5_wideOf.2.1 49 = .ok (.aload_n 1, 1) := by decide +kernel
theorem dX5_wideOf_50 : decode fX5_wideOf.2.1 50 = .ok (.getfield 123, 3) := by decide +kernel
theorem dX5_wideOf_53 : decode fX5_wideOf.2.1 53 = .ok (.iconst 2, 1) := by decide +kernel
theorem dX5_wideOf_54 : decode fX5_wideOf.2.1 54 = .ok (.iadd, 1) := by decide +kernel
theorem dX5_wideOf_55 : decode fX5_wideOf.2.1 55 = .ok (.ireturn, 1) := by decide +kernel
theorem dX5_wideOf_56 : decode fX5_wideOf.2.1 56 = .ok (.bipush 24, 2) := by decide +kernel
theorem dX5_wideOf_58 : decode fX5_wideOf.2.1 58 = .ok (.iconst 2, 1) := by decide +kernel
theorem dX5_wideOf_59 : decode fX5_wideOf.2.1 59 = .ok (.aload_n 1, 1) := by decide +kernel
theorem dX5_wideOf_60 : decode fX5_wideOf.2.1 60 = .ok (.getfield 123, 3) := by decide +kernel
theorem dX5_wideOf_63 : decode fX5_wideOf.2.1 63 = .ok (.iconst 2, 1) := by decide +kernel
theorem dX5_wideOf_64 : decode fX5_wideOf.2.1 64 = .ok (.iadd, 1) := by decide +kernel
theorem dX5_wideOf_65 : decode fX5_wideOf.2.1 65 = .ok (.imul, 1) := by decide +kernel
theorem dX5_wideOf_66 : decode fX5_wideOf.2.1 66 = .ok (.invokestatic 126, 3) := by decide +kernel
theorem dX5_wideOf_69 : decode fX5_wideOf.2.1 69 = .ok (.ireturn, 1) := by decide +kernel
theorem dX5_wideOf_70 : decode fX5_wideOf.2.1 70 = .ok (.aload_n 0, 1) := by decide +kernel
theorem dX5_wideOf_71 : decode fX5_wideOf.2.1 71 = .ok (.getfield 78, 3) := by decide +kernel
theorem dX5_wideOf_74 : decode fX5_wideOf.2.1 74 = .ok (.iconst 2, 1) := by decide +kernel
theorem dX5_wideOf_75 : decode fX5_wideOf.2.1 75 = .ok (.irem, 1) := by decide +kernel
theorem dX5_wideOf_76 : decode fX5_wideOf.2.1 76 = .ok (.ifCond .ne 10, 3) := by decide +kernel
theorem dX5_wideOf_79 : decode fX5_wideOf.2.1 79 = .ok (.aload_n 1, 1) := by decide +kernel
theorem dX5_wideOf_80 : decode fX5_wideOf.2.1 80 = .ok (.getfield 123, 3) := by decide +kernel
theorem dX5_wideOf_83 : decode fX5_wideOf.2.1 83 = .ok (.goto 4, 3) := by decide +kernel
theorem dX5_wideOf_86 : decode fX5_wideOf.2.1 86 = .ok (.iconst 0, 1) := by decide +kernel
theorem dX5_wideOf_87 : decode fX5_wideOf.2.1 87 = .ok (.ireturn, 1) := by decide +kernel
theorem dX5_wideOf_88 : decode fX5_wideOf.2.1 88 = .ok (.aload_n 1, 1) := by decide +kernel
theorem dX5_wideOf_89 : decode fX5_wideOf.2.1 89 = .ok (.getfield 123, 3) := by decide +kernel
theorem dX5_wideOf_92 : decode fX5_wideOf.2.1 92 = .ok (.ireturn, 1) := by decide +kernel
set_option maxRecDepth 100000 in
set_option maxHeartbeats 4000000 in
theorem ok_X5_wideOf {X : Xb} {S : Sg} {mi : Mem} {t q : Nat} (hT : TwA S t) (hq : Kd S q 0 0) : OkI 1 fX5_wideOf X [rf X t, rf X q] S mi (sWide (mi t 10) (mi q 0) (mi q 2)) mi := by
  refine Ok.go [some (rf X t), some (rf X q)] (by decide) (by simp [Value.category]) (Nat.le_of_ble_eq_true rfl) rfl ?_
  obtain ⟨k_t, ⟨r_t_home, k_t_home⟩, ⟨r_t_price, k_t_price⟩, ⟨r_t_attics, k_t_attics⟩, ⟨r_t_texts, k_t_texts⟩, ⟨r_t_counting, k_t_counting⟩, ⟨r_t_names, k_t_names⟩, ⟨r_t_pile, k_t_pile⟩, ⟨r_t_views, k_t_views⟩, a_t⟩ := id hT
  refine mw_aload_n dX5_wideOf_0 rfl ?_
  refine mw_geti dX5_wideOf_1 fl_X5_120 rfl (by assumption) ?_
  refine mw_ts1 dX5_wideOf_4 (by decide) 1 40 (by decide) (fun h4_1 => ?_) (fun h4_1 => ?_)
  · skip
    refine mw_aload_n dX5_wideOf_40 rfl ?_
    refine mw_geti dX5_wideOf_41 fl_X5_123 rfl (by assumption) ?_
    refine mw_iconst (v := 2) dX5_wideOf_44 (by decide) ?_
    refine mw_idiv dX5_wideOf_45 (by decide) ?_
    refine mw_iconst (v := 1) dX5_wideOf_46 (by decide) ?_
    refine mw_iadd dX5_wideOf_47 ?_
    exact mw_iret dX5_wideOf_48 rfl (by decide) (by decide) (⟨by simp [sWide, minI, *], rfl, rfl⟩)
  refine mw_ts1 dX5_wideOf_4 (by decide) 2 49 (by decide) (fun h4_2 => ?_) (fun h4_2 => ?_)
  · skip
    refine mw_aload_n dX5_wideOf_49 rfl ?_
    refine mw_geti dX5_wideOf_50 fl_X5_123 rfl (by assumption) ?_
    refine mw_iconst (v := 2) dX5_wideOf_53 (by decide) ?_
    refine mw_iadd dX5_wideOf_54 ?_
    exact mw_iret dX5_wideOf_55 rfl (by decide) (by decide) (⟨by simp [sWide, minI, *], rfl, rfl⟩)
  refine mw_ts1 dX5_wideOf_4 (by decide) 3 40 (by decide) (fun h4_3 => ?_) (fun h4_3 => ?_)
  · skip
    refine mw_aload_n dX5_wideOf_40 rfl ?_
    refine mw_geti dX5_wideOf_41 fl_X5_123 rfl (by assumption) ?_
    refine mw_iconst (v := 2) dX5_wideOf_44 (by decide) ?_
    refine mw_idiv dX5_wideOf_45 (by decide) ?_
    refine mw_iconst (v := 1) dX5_wideOf_46 (by decide) ?_
    refine mw_iadd dX5_wideOf_47 ?_
    exact mw_iret dX5_wideOf_48 rfl (by decide) (by decide) (⟨by simp [sWide, minI, *], rfl, rfl⟩)
  refine mw_ts1 dX5_wideOf_4 (by decide) 4 56 (by decide) (fun h4_4 => ?_) (fun h4_4 => ?_)
  · skip
    refine mw_bipush (v := 24) dX5_wideOf_56 (by decide) ?_
    refine mw_iconst (v := 2) dX5_wideOf_58 (by decide) ?_
    refine mw_aload_n dX5_wideOf_59 rfl ?_
    refine mw_geti dX5_wideOf_60 fl_X5_123 rfl (by assumption) ?_
    refine mw_iconst (v := 2) dX5_wideOf_63 (by decide) ?_
    refine mw_iadd dX5_wideOf_64 ?_
    refine mw_imul dX5_wideOf_65 ?_
    refine mw_mmin dX5_wideOf_66 ml_X5_126 (Nat.le_of_ble_eq_true rfl) ⟨by decide, by decide⟩ ⟨by decide, by decide⟩ ?_
    exact mw_iret dX5_wideOf_69 rfl (by decide) (by decide) (⟨by simp [sWide, minI, *], rfl, rfl⟩)
  refine mw_ts1 dX5_wideOf_4 (by decide) 5 70 (by decide) (fun h4_5 => ?_) (fun h4_5 => ?_)
  · skip
    refine mw_aload_n dX5_wideOf_70 rfl ?_
    refine mw_geti dX5_wideOf_71 fl_X5_78 rfl (by assumption) ?_
    refine mw_iconst (v := 2) dX5_wideOf_74 (by decide) ?_
    refine mw_irem dX5_wideOf_75 (by decide) ?_
    refine mw_if_ne (tgt := 86) dX5_wideOf_76 (by decide) (fun h76 => ?_) (fun h76 => ?_)
    · skip
      refine mw_iconst (v := 0) dX5_wideOf_86 (by decide) ?_
      exact mw_iret dX5_wideOf_87 rfl (by decide) (by decide) (⟨by simp [sWide, minI, *], rfl, rfl⟩)
    · skip
      refine mw_aload_n dX5_wideOf_79 rfl ?_
      refine mw_geti dX5_wideOf_80 fl_X5_123 rfl (by assumption) ?_
      refine mw_goto (tgt := 87) dX5_wideOf_83 (by decide) ?_
      exact mw_iret dX5_wideOf_87 rfl (by decide) (by decide) (⟨by simp [sWide, minI, *], rfl, rfl⟩)
  refine mw_ts0 dX5_wideOf_4 (by decide) 88 (by decide) (by have e0 := ne_toI (n := 1) (by decide) h4_1; have e1 := ne_toI (n := 2) (by decide) h4_2; have e2 := ne_toI (n := 3) (by decide) h4_3; have e3 := ne_toI (n := 4) (by decide) h4_4; have e4 := ne_toI (n := 5) (by decide) h4_5; omega) ?_
  refine mw_aload_n dX5_wideOf_88 rfl ?_
  refine mw_geti dX5_wideOf_89 fl_X5_123 rfl (by assumption) ?_
  exact mw_iret dX5_wideOf_92 rfl (by decide) (by decide) (⟨by simp [sWide, minI, *], rfl, rfl⟩)
theorem dX5_hidingFrom_0 : decode fX5_hidingFrom.2.1 0 = .ok (.aload_n 1, 1) := by decide +kernel
theorem dX5_hidingFrom_1 : decode fX5_hidingFrom.2.1 1 = .ok (.getfield 120, 3) := by decide +kernel
theorem dX5_hidingFrom_4 : decode fX5_hidingFrom.2.1 4 = .ok (.lookupswitch 38 #[(2, 28), (4, 36)], 28) := by decide +kernel
theorem dX5_hidingFrom_32 : decode fX5_hidingFrom.2.1 32 = .ok (.aload_n 0, 1) := by decide +kernel
theorem dX5_hidingFrom_33 : decode fX5_hidingFrom.2.1 33 = .ok (.getfield 66, 3) := by decide +kernel
theorem dX5_hidingFrom_36 : decode fX5_hidingFrom.2.1 36 = .ok (.ldc 132, 2) := by decide +kernel
theorem dX5_hidingFrom_38 : decode fX5_hidingFrom.2.1 38 = .ok (.iand, 1) := by decide +kernel
theorem dX5_hidingFrom_39 : decode fX5_hidingFrom.2.1 39 = .ok (.ireturn, 1) := by decide +kernel
theorem dX5_hidingFrom_40 : decode fX5_hidingFrom.2.1 40 = .ok (.iconst 0, 1) := by decide +kernel
theorem dX5_hidingFrom_41 : decode fX5_hidingFrom.2.1 41 = .ok (.ireturn, 1) := by decide +kernel
theorem dX5_hidingFrom_42 : decode fX5_hidingFrom.2.1 42 = .ok (.aload_n 0, 1) := by decide +kernel
theorem dX5_hidingFrom_43 : decode fX5_hidingFrom.2.1 43 = .ok (.getfield 66, 3) := by decide +kernel
theorem dX5_hidingFrom_46 : decode fX5_hidingFrom.2.1 46 = .ok (.ireturn, 1) := by decide +kernel
set_option maxRecDepth 100000 in
set_option maxHeartbeats 4000000 in
theorem ok_X5_hidingFrom {X : Xb} {S : Sg} {mi : Mem} {t q : Nat} (hT : TwA S t) (hq : Kd S q 0 0) : OkI 0 fX5_hidingFrom X [rf X t, rf X q] S mi (sHide (mi t 4) (mi q 0)) mi := by
  refine Ok.go [some (rf X t), some (rf X q)] (by decide) (by simp [Value.category]) (Nat.le_of_ble_eq_true rfl) rfl ?_
  obtain ⟨k_t, ⟨r_t_home, k_t_home⟩, ⟨r_t_price, k_t_price⟩, ⟨r_t_attics, k_t_attics⟩, ⟨r_t_texts, k_t_texts⟩, ⟨r_t_counting, k_t_counting⟩, ⟨r_t_names, k_t_names⟩, ⟨r_t_pile, k_t_pile⟩, ⟨r_t_views, k_t_views⟩, a_t⟩ := id hT
  refine mw_aload_n dX5_hidingFrom_0 rfl ?_
  refine mw_geti dX5_hidingFrom_1 fl_X5_120 rfl (by assumption) ?_
  refine mw_ls1 dX5_hidingFrom_4 (by decide) 2 32 (by decide) (fun h4_2 => ?_) (fun h4_2 => ?_)
  · skip
    refine mw_aload_n dX5_hidingFrom_32 rfl ?_
    refine mw_geti dX5_hidingFrom_33 fl_X5_66 rfl (by assumption) ?_
    refine mw_ldc dX5_hidingFrom_36 cn_X5_132 ?_
    refine mw_iand dX5_hidingFrom_38 ?_
    exact mw_iret dX5_hidingFrom_39 rfl (by decide) (by decide) (⟨by simp [sHide, *], rfl, rfl⟩)
  refine mw_ls1 dX5_hidingFrom_4 (by decide) 4 40 (by decide) (fun h4_4 => ?_) (fun h4_4 => ?_)
  · skip
    refine mw_iconst (v := 0) dX5_hidingFrom_40 (by decide) ?_
    exact mw_iret dX5_hidingFrom_41 rfl (by decide) (by decide) (⟨by simp [sHide, *], rfl, rfl⟩)
  refine mw_ls0 dX5_hidingFrom_4 (by decide) 42 (by decide) (by have e0 := ne_toI (n := 2) (by decide) h4_2; have e1 := ne_toI (n := 4) (by decide) h4_4; simp; omega) ?_
  refine mw_aload_n dX5_hidingFrom_42 rfl ?_
  refine mw_geti dX5_hidingFrom_43 fl_X5_66 rfl (by assumption) ?_
  exact mw_iret dX5_hidingFrom_46 rfl (by decide) (by decide) (⟨by simp [sHide, *], rfl, rfl⟩)
/-- the stars that are seen, up to star n -/
def cSee (home : Nat → Int32) (hour chim kind faces width : Int32) (k : Nat) : Prop := jr (jr (home k + hour) 24 - faces + 24) 24 < sWide hour kind width ∧ (sHide chim kind >>> (jr (home k + hour) 24 &&& 31)) &&& 1 = 0
def seesTo (p : Nat → Bool) : Nat → Int32
  | 0 => 0
  | n + 1 => if p n then seesTo p n ||| (1 <<< (nI n &&& 31)) else seesTo p n
def cSeeB (home : Nat → Int32) (hour chim kind faces width : Int32) (k : Nat) : Bool := decide (jr (jr (home k + hour) 24 - faces + 24) 24 < sWide hour kind width) && decide ((sHide chim kind >>> (jr (home k + hour) 24 &&& 31)) &&& 1 = 0)
def cSees (home : Nat → Int32) (hour chim kind faces width : Int32) : Int32 := seesTo (cSeeB home hour chim kind faces width) 8
theorem dX5_seenBy_0 : decode fX5_seenBy.2.1 0 = .ok (.aload_n 0, 1) := by decide +kernel
theorem dX5_seenBy_1 : decode fX5_seenBy.2.1 1 = .ok (.aload_n 1, 1) := by decide +kernel
theorem dX5_seenBy_2 : decode fX5_seenBy.2.1 2 = .ok (.invokevirtual 133, 3) := by decide +kernel
theorem dX5_seenBy_5 : decode fX5_seenBy.2.1 5 = .ok (.istore_n 2, 1) := by decide +kernel
theorem dX5_seenBy_6 : decode fX5_seenBy.2.1 6 = .ok (.aload_n 0, 1) := by decide +kernel
theorem dX5_seenBy_7 : decode fX5_seenBy.2.1 7 = .ok (.aload_n 1, 1) := by decide +kernel
theorem dX5_seenBy_8 : decode fX5_seenBy.2.1 8 = .ok (.invokevirtual 136, 3) := by decide +kernel
theorem dX5_seenBy_11 : decode fX5_seenBy.2.1 11 = .ok (.istore_n 3, 1) := by decide +kernel
theorem dX5_seenBy_12 : decode fX5_seenBy.2.1 12 = .ok (.iconst 0, 1) := by decide +kernel
theorem dX5_seenBy_13 : decode fX5_seenBy.2.1 13 = .ok (.istore 4, 2) := by decide +kernel
theorem dX5_seenBy_15 : decode fX5_seenBy.2.1 15 = .ok (.iconst 0, 1) := by decide +kernel
theorem dX5_seenBy_16 : decode fX5_seenBy.2.1 16 = .ok (.istore 5, 2) := by decide +kernel
theorem dX5_seenBy_18 : decode fX5_seenBy.2.1 18 = .ok (.iload 5, 2) := by decide +kernel
theorem dX5_seenBy_20 : decode fX5_seenBy.2.1 20 = .ok (.bipush 8, 2) := by decide +kernel
theorem dX5_seenBy_22 : decode fX5_seenBy.2.1 22 = .ok (.if_icmp .ge 56, 3) := by decide +kernel
theorem dX5_seenBy_25 : decode fX5_seenBy.2.1 25 = .ok (.aload_n 0, 1) := by decide +kernel
theorem dX5_seenBy_26 : decode fX5_seenBy.2.1 26 = .ok (.iload 5, 2) := by decide +kernel
theorem dX5_seenBy_28 : decode fX5_seenBy.2.1 28 = .ok (.invokevirtual 139, 3) := by decide +kernel
theorem dX5_seenBy_31 : decode fX5_seenBy.2.1 31 = .ok (.istore 6, 2) := by decide +kernel
theorem dX5_seenBy_33 : decode fX5_seenBy.2.1 33 = .ok (.iload 6, 2) := by decide +kernel
theorem dX5_seenBy_35 : decode fX5_seenBy.2.1 35 = .ok (.aload_n 1, 1) := by decide +kernel
theorem dX5_seenBy_36 : decode fX5_seenBy.2.1 36 = .ok (.getfield 117, 3) := by decide +kernel
theorem dX5_seenBy_39 : decode fX5_seenBy.2.1 39 = .ok (.isub, 1) := by decide +kernel
theorem dX5_seenBy_40 : decode fX5_seenBy.2.1 40 = .ok (.bipush 24, 2) := by decide +kernel
theorem dX5_seenBy_42 : decode fX5_seenBy.2.1 42 = .ok (.iadd, 1) := by decide +kernel
theorem dX5_seenBy_43 : decode fX5_seenBy.2.1 43 = .ok (.bipush 24, 2) := by decide +kernel
theorem dX5_seenBy_45 : decode fX5_seenBy.2.1 45 = .ok (.irem, 1) := by decide +kernel
theorem dX5_seenBy_46 : decode fX5_seenBy.2.1 46 = .ok (.istore 7, 2) := by decide +kernel
theorem dX5_seenBy_48 : decode fX5_seenBy.2.1 48 = .ok (.iload 7, 2) := by decide +kernel
theorem dX5_seenBy_50 : decode fX5_seenBy.2.1 50 = .ok (.iload_n 2, 1) := by decide +kernel
theorem dX5_seenBy_51 : decode fX5_seenBy.2.1 51 = .ok (.if_icmp .ge 21, 3) := by decide +kernel
theorem dX5_seenBy_54 : decode fX5_seenBy.2.1 54 = .ok (.iload_n 3, 1) := by decide +kernel
theorem dX5_seenBy_55 : decode fX5_seenBy.2.1 55 = .ok (.iload 6, 2) := by decide +kernel
theorem dX5_seenBy_57 : decode fX5_seenBy.2.1 57 = .ok (.ishr, 1) := by decide +kernel
theorem dX5_seenBy_58 : decode fX5_seenBy.2.1 58 = .ok (.iconst 1, 1) := by decide +kernel
theorem dX5_seenBy_59 : decode fX5_seenBy.2.1 59 = .ok (.iand, 1) := by decide +kernel
theorem dX5_seenBy_60 : decode fX5_seenBy.2.1 60 = .ok (.ifCond .ne 12, 3) := by decide +kernel
theorem dX5_seenBy_63 : decode fX5_seenBy.2.1 63 = .ok (.iload 4, 2) := by decide +kernel
theorem dX5_seenBy_65 : decode fX5_seenBy.2.1 65 = .ok (.iconst 1, 1) := by decide +kernel
theorem dX5_seenBy_66 : decode fX5_seenBy.2.1 66 = .ok (.iload 5, 2) := by decide +kernel
theorem dX5_seenBy_68 : decode fX5_seenBy.2.1 68 = .ok (.ishl, 1) := by decide +kernel
theorem dX5_seenBy_69 : decode fX5_seenBy.2.1 69 = .ok (.ior, 1) := by decide +kernel
theorem dX5_seenBy_70 : decode fX5_seenBy.2.1 70 = .ok (.istore 4, 2) := by decide +kernel
theorem dX5_seenBy_72 : decode fX5_seenBy.2.1 72 = .ok (.iinc 5 1, 3) := by decide +kernel
theorem dX5_seenBy_75 : decode fX5_seenBy.2.1 75 = .ok (.goto (-57), 3) := by decide +kernel
theorem dX5_seenBy_78 : decode fX5_seenBy.2.1 78 = .ok (.iload 4, 2) := by decide +kernel
theorem dX5_seenBy_80 : decode fX5_seenBy.2.1 80 = .ok (.ireturn, 1) := by decide +kernel
set_option maxRecDepth 100000 in
set_option maxHeartbeats 4000000 in
theorem ok_X5_seenBy {X : Xb} {S : Sg} {mi : Mem} {t q : Nat} (hT : TwA S t) (hq : Kd S q 0 0) : OkI 2 fX5_seenBy X [rf X t, rf X q] S mi (cSees (mi (t + 1)) (mi t 10) (mi t 4) (mi q 0) (mi q 1) (mi q 2)) mi := by
  refine Ok.go [some (rf X t), some (rf X q), none, none, none, none, none, none] (by decide) (by simp [Value.category]) (Nat.le_of_ble_eq_true rfl) rfl ?_
  obtain ⟨k_t, ⟨r_t_home, k_t_home⟩, ⟨r_t_price, k_t_price⟩, ⟨r_t_attics, k_t_attics⟩, ⟨r_t_texts, k_t_texts⟩, ⟨r_t_counting, k_t_counting⟩, ⟨r_t_names, k_t_names⟩, ⟨r_t_pile, k_t_pile⟩, ⟨r_t_views, k_t_views⟩, a_t⟩ := id hT
  have loop : ∀ (n k : Nat), n + k = 8 → MW X fX5_seenBy (rmOf 2 0 0) 0 0 18 [some (rf X t), some (rf X q), some (.int (sWide (mi t 10) (mi q 0) (mi q 2))), some (.int (sHide (mi t 4) (mi q 0))), some (.int (seesTo (cSeeB (mi (t + 1)) (mi t 10) (mi t 4) (mi q 0) (mi q 1) (mi q 2)) k)), some (.int (nI k)), none, none] [] S mi (mQ X 0 0 (pI (cSees (mi (t + 1)) (mi t 10) (mi t 4) (mi q 0) (mi q 1) (mi q 2)) S mi)) := by
    intro n
    induction n with
    | zero =>
      intro k hk
      obtain rfl : k = 8 := by omega
      refine mw_iload dX5_seenBy_18 rfl ?_
      refine mw_bipush (v := 8) dX5_seenBy_20 (by decide) ?_
      refine mw_icmp_ge (tgt := 78) dX5_seenBy_22 (by decide) (fun h22 => ?_) (fun h22 => ?_)
      · skip
        refine mw_iload dX5_seenBy_78 rfl ?_
        exact mw_iret dX5_seenBy_80 rfl (by decide) (by decide) (⟨rfl, rfl, rfl⟩)
      · skip
        exact absurd (by decide) h22
    | succ n ih =>
      intro k hk
      refine mw_iload dX5_seenBy_18 rfl ?_
      refine mw_bipush (v := 8) dX5_seenBy_20 (by decide) ?_
      refine mw_icmp_ge (tgt := 78) dX5_seenBy_22 (by decide) (fun h22 => ?_) (fun h22 => ?_)
      · skip
        exact absurd h22 (nI_ge (b := 8) (by omega) (by decide))
      · skip
        refine mw_aload_n dX5_seenBy_25 rfl ?_
        refine mw_iload dX5_seenBy_26 rfl ?_
        refine mw_cVI (g := fX5_bearingOf) dX5_seenBy_28 ml_X5_139 mfX5_bearingOf (ok_X5_bearingOf hT (k := k) (by omega)) (by assumption) rfl rfl (Nat.le_of_ble_eq_true rfl) ⟨by decide, by decide⟩ ⟨by decide, by decide⟩ ?_
        refine mw_istore dX5_seenBy_31 (by decide) ?_
        refine mw_iload dX5_seenBy_33 rfl ?_
        refine mw_aload_n dX5_seenBy_35 rfl ?_
        refine mw_geti dX5_seenBy_36 fl_X5_117 rfl (by assumption) ?_
        refine mw_isub dX5_seenBy_39 ?_
        refine mw_bipush (v := 24) dX5_seenBy_40 (by decide) ?_
        refine mw_iadd dX5_seenBy_42 ?_
        refine mw_bipush (v := 24) dX5_seenBy_43 (by decide) ?_
        refine mw_irem dX5_seenBy_45 (by decide) ?_
        refine mw_istore dX5_seenBy_46 (by decide) ?_
        refine mw_iload dX5_seenBy_48 rfl ?_
        refine mw_iload_n dX5_seenBy_50 rfl ?_
        refine mw_icmp_ge (tgt := 72) dX5_seenBy_51 (by decide) (fun h51 => ?_) (fun h51 => ?_)
        · skip
          refine mw_iincK (k := k) dX5_seenBy_72 rfl rfl (by decide) ?_
          refine mw_goto (tgt := 18) dX5_seenBy_75 (by decide) ?_
          refine MW.back (ih (k + 1) (by omega)) ?_
          simp [lsub, seesTo, cSeeB]
          grind
        · skip
          refine mw_iload_n dX5_seenBy_54 rfl ?_
          refine mw_iload dX5_seenBy_55 rfl ?_
          refine mw_ishr dX5_seenBy_57 ?_
          refine mw_iconst (v := 1) dX5_seenBy_58 (by decide) ?_
          refine mw_iand dX5_seenBy_59 ?_
          refine mw_if_ne (tgt := 72) dX5_seenBy_60 (by decide) (fun h60 => ?_) (fun h60 => ?_)
          · skip
            refine mw_iincK (k := k) dX5_seenBy_72 rfl rfl (by decide) ?_
            refine mw_goto (tgt := 18) dX5_seenBy_75 (by decide) ?_
            refine MW.back (ih (k + 1) (by omega)) ?_
            simp [lsub, seesTo, cSeeB]
            grind
          · skip
            refine mw_iload dX5_seenBy_63 rfl ?_
            refine mw_iconst (v := 1) dX5_seenBy_65 (by decide) ?_
            refine mw_iload dX5_seenBy_66 rfl ?_
            refine mw_ishl dX5_seenBy_68 ?_
            refine mw_ior dX5_seenBy_69 ?_
            refine mw_istore dX5_seenBy_70 (by decide) ?_
            refine mw_iincK (k := k) dX5_seenBy_72 rfl rfl (by decide) ?_
            refine mw_goto (tgt := 18) dX5_seenBy_75 (by decide) ?_
            refine MW.back (ih (k + 1) (by omega)) ?_
            simp [lsub, seesTo, cSeeB]
            grind
  refine mw_aload_n dX5_seenBy_0 rfl ?_
  refine mw_aload_n dX5_seenBy_1 rfl ?_
  refine mw_cVI (g := fX5_wideOf) dX5_seenBy_2 ml_X5_133 mfX5_wideOf (ok_X5_wideOf hT hq) (by assumption) rfl rfl (Nat.le_of_ble_eq_true rfl) ⟨by decide, by decide⟩ ⟨by decide, by decide⟩ ?_
  refine mw_istN 2 dX5_seenBy_5 rfl (by decide) ?_
  refine mw_aload_n dX5_seenBy_6 rfl ?_
  refine mw_aload_n dX5_seenBy_7 rfl ?_
  refine mw_cVI (g := fX5_hidingFrom) dX5_seenBy_8 ml_X5_136 mfX5_hidingFrom (ok_X5_hidingFrom hT hq) (by assumption) rfl rfl (Nat.le_of_ble_eq_true rfl) ⟨by decide, by decide⟩ ⟨by decide, by decide⟩ ?_
  refine mw_istN 3 dX5_seenBy_11 rfl (by decide) ?_
  refine mw_iconst (v := 0) dX5_seenBy_12 (by decide) ?_
  refine mw_istore dX5_seenBy_13 (by decide) ?_
  refine mw_iconst (v := 0) dX5_seenBy_15 (by decide) ?_
  refine mw_istore dX5_seenBy_16 (by decide) ?_
  exact MW.back (loop 8 0 (by omega)) (by simp [lsub, seesTo, nI_0])
end
section
/-! Town: sums over its attics -/
abbrev cSeesA (mi : Mem) (t i : Nat) : Int32 := cSees (mi (t + 1)) (mi t 10) (mi t 4) (mi (t + 9 + i) 0) (mi (t + 9 + i) 1) (mi (t + 9 + i) 2)
theorem dX5_owedByAll_0 : decode fX5_owedByAll.2.1 0 = .ok (.iconst 0, 1) := by decide +kernel
theorem dX5_owedByAll_1 : decode fX5_owedByAll.2.1 1 = .ok (.istore_n 1, 1) := by decide +kernel
theorem dX5_owedByAll_2 : decode fX5_owedByAll.2.1 2 = .ok (.iconst 0, 1) := by decide +kernel
theorem dX5_owedByAll_3 : decode fX5_owedByAll.2.1 3 = .ok (.istore_n 2, 1) := by decide +kernel
theorem dX5_owedByAll_4 : decode fX5_owedByAll.2.1 4 = .ok (.iload_n 2, 1) := by decide +kernel
theorem dX5_owedByAll_5 : decode fX5_owedByAll.2.1 5 = .ok (.aload_n 0, 1) := by decide +kernel
theorem dX5_owedByAll_6 : decode fX5_owedByAll.2.1 6 = .ok (.getfield 59, 3) := by decide +kernel
theorem dX5_owedByAll_9 : decode fX5_owedByAll.2.1 9 = .ok (.if_icmp .ge 21, 3) := by decide +kernel
theorem dX5_owedByAll_12 : decode fX5_owedByAll.2.1 12 = .ok (.iload_n 1, 1) := by decide +kernel
theorem dX5_owedByAll_13 : decode fX5_owedByAll.2.1 13 = .ok (.aload_n 0, 1) := by decide +kernel
theorem dX5_owedByAll_14 : decode fX5_owedByAll.2.1 14 = .ok (.getfield 20, 3) := by decide +kernel
theorem dX5_owedByAll_17 : decode fX5_owedByAll.2.1 17 = .ok (.iload_n 2, 1) := by decide +kernel
theorem dX5_owedByAll_18 : decode fX5_owedByAll.2.1 18 = .ok (.aaload, 1) := by decide +kernel
theorem dX5_owedByAll_19 : decode fX5_owedByAll.2.1 19 = .ok (.getfield 175, 3) := by decide +kernel
theorem dX5_owedByAll_22 : decode fX5_owedByAll.2.1 22 = .ok (.iadd, 1) := by decide +kernel
theorem dX5_owedByAll_23 : decode fX5_owedByAll.2.1 23 = .ok (.istore_n 1, 1) := by decide +kernel
theorem dX5_owedByAll_24 : decode fX5_owedByAll.2.1 24 = .ok (.iinc 2 1, 3) := by decide +kernel
theorem dX5_owedByAll_27 : decode fX5_owedByAll.2.1 27 = .ok (.goto (-23), 3) := by decide +kernel
theorem dX5_owedByAll_30 : decode fX5_owedByAll.2.1 30 = .ok (.iload_n 1, 1) := by decide +kernel
theorem dX5_owedByAll_31 : decode fX5_owedByAll.2.1 31 = .ok (.ireturn, 1) := by decide +kernel
set_option maxRecDepth 100000 in
set_option maxHeartbeats 4000000 in
theorem ok_X5_owedByAll {X : Xb} {S : Sg} {mi : Mem} {t n : Nat} (hT : TwA S t) (hn : mi t 3 = nI n) (hn8 : n ≤ 8) : OkI 0 fX5_owedByAll X [rf X t] S mi (fld (fun s i => s + mi (t + 9 + i) 4) 0 n) mi := by
  refine Ok.go [some (rf X t), none, none] (by decide) (by simp [Value.category]) (Nat.le_of_ble_eq_true rfl) rfl ?_
  obtain ⟨k_t, ⟨r_t_home, k_t_home⟩, ⟨r_t_price, k_t_price⟩, ⟨r_t_attics, k_t_attics⟩, ⟨r_t_texts, k_t_texts⟩, ⟨r_t_counting, k_t_counting⟩, ⟨r_t_names, k_t_names⟩, ⟨r_t_pile, k_t_pile⟩, ⟨r_t_views, k_t_views⟩, a_t⟩ := id hT
  have lp := mw_dn (P := fun k => MW X fX5_owedByAll (rmOf 0 0 0) 0 0 4 [some (rf X t), some (.int (fld (fun s i => s + mi (t + 9 + i) 4) 0 k)), some (.int (nI k))] [] S mi (mQ X 0 0 (pI (fld (fun s i => s + mi (t + 9 + i) 4) 0 n) S mi))) n (by
    refine mw_iload_n dX5_owedByAll_4 rfl ?_
    refine mw_aload_n dX5_owedByAll_5 rfl ?_
    refine mw_geti dX5_owedByAll_6 fl_X5_59 rfl (by assumption) ?_
    refine mw_icmp_ge (tgt := 30) dX5_owedByAll_9 (by decide) (fun h9 => ?_) (fun h9 => ?_)
    · skip
      refine mw_iload_n dX5_owedByAll_30 rfl ?_
      exact mw_iret dX5_owedByAll_31 rfl (by decide) (by decide) (⟨rfl, rfl, rfl⟩)
    · skip
      exact absurd (by rw [hn]; exact Int32.le_refl _) h9) (fun k hk ih => by
    refine mw_iload_n dX5_owedByAll_4 rfl ?_
    refine mw_aload_n dX5_owedByAll_5 rfl ?_
    refine mw_geti dX5_owedByAll_6 fl_X5_59 rfl (by assumption) ?_
    refine mw_icmp_ge (tgt := 30) dX5_owedByAll_9 (by decide) (fun h9 => ?_) (fun h9 => ?_)
    · skip
      exact absurd h9 (by rw [hn]; exact nI_ge hk (by omega))
    · skip
      refine mw_iload_n dX5_owedByAll_12 rfl ?_
      refine mw_aload_n dX5_owedByAll_13 rfl ?_
      refine mw_getr dX5_owedByAll_14 fl_X5_20 rfl (by assumption) (by assumption) ?_
      refine mw_iload_n dX5_owedByAll_17 rfl ?_
      refine mw_aldK (k := k) dX5_owedByAll_18 (by assumption) (by decide) (rfl) (by omega) (by decide) ((a_t k (by omega)).1) ?_
      refine mw_geti dX5_owedByAll_19 fl_X5_175 rfl ((a_t k (by omega)).2) ?_
      refine mw_iadd dX5_owedByAll_22 ?_
      refine mw_istN 1 dX5_owedByAll_23 rfl (by decide) ?_
      refine mw_iincK (k := k) dX5_owedByAll_24 rfl rfl (by decide) ?_
      refine mw_goto (tgt := 4) dX5_owedByAll_27 (by decide) ?_
      exact MW.back ih (by simp [lsub, fld]))
  refine mw_iconst (v := 0) dX5_owedByAll_0 (by decide) ?_
  refine mw_istN 1 dX5_owedByAll_1 rfl (by decide) ?_
  refine mw_iconst (v := 0) dX5_owedByAll_2 (by decide) ?_
  refine mw_istN 2 dX5_owedByAll_3 rfl (by decide) ?_
  exact MW.back lp (by simp [lsub, fld, nI_0])
theorem dX5_coinOfAll_0 : decode fX5_coinOfAll.2.1 0 = .ok (.iconst 0, 1) := by decide +kernel
theorem dX5_coinOfAll_1 : decode fX5_coinOfAll.2.1 1 = .ok (.istore_n 1, 1) := by decide +kernel
theorem dX5_coinOfAll_2 : decode fX5_coinOfAll.2.1 2 = .ok (.iconst 0, 1) := by decide +kernel
theorem dX5_coinOfAll_3 : decode fX5_coinOfAll.2.1 3 = .ok (.istore_n 2, 1) := by decide +kernel
theorem dX5_coinOfAll_4 : decode fX5_coinOfAll.2.1 4 = .ok (.iload_n 2, 1) := by decide +kernel
theorem dX5_coinOfAll_5 : decode fX5_coinOfAll.2.1 5 = .ok (.aload_n 0, 1) := by decide +kernel
theorem dX5_coinOfAll_6 : decode fX5_coinOfAll.2.1 6 = .ok (.getfield 59, 3) := by decide +kernel
theorem dX5_coinOfAll_9 : decode fX5_coinOfAll.2.1 9 = .ok (.if_icmp .ge 21, 3) := by decide +kernel
theorem dX5_coinOfAll_12 : decode fX5_coinOfAll.2.1 12 = .ok (.iload_n 1, 1) := by decide +kernel
theorem dX5_coinOfAll_13 : decode fX5_coinOfAll.2.1 13 = .ok (.aload_n 0, 1) := by decide +kernel
theorem dX5_coinOfAll_14 : decode fX5_coinOfAll.2.1 14 = .ok (.getfield 20, 3) := by decide +kernel
theorem dX5_coinOfAll_17 : decode fX5_coinOfAll.2.1 17 = .ok (.iload_n 2, 1) := by decide +kernel
theorem dX5_coinOfAll_18 : decode fX5_coinOfAll.2.1 18 = .ok (.aaload, 1) := by decide +kernel
theorem dX5_coinOfAll_19 : decode fX5_coinOfAll.2.1 19 = .ok (.getfield 178, 3) := by decide +kernel
theorem dX5_coinOfAll_22 : decode fX5_coinOfAll.2.1 22 = .ok (.iadd, 1) := by decide +kernel
theorem dX5_coinOfAll_23 : decode fX5_coinOfAll.2.1 23 = .ok (.istore_n 1, 1) := by decide +kernel
theorem dX5_coinOfAll_24 : decode fX5_coinOfAll.2.1 24 = .ok (.iinc 2 1, 3) := by decide +kernel
theorem dX5_coinOfAll_27 : decode fX5_coinOfAll.2.1 27 = .ok (.goto (-23), 3) := by decide +kernel
theorem dX5_coinOfAll_30 : decode fX5_coinOfAll.2.1 30 = .ok (.iload_n 1, 1) := by decide +kernel
theorem dX5_coinOfAll_31 : decode fX5_coinOfAll.2.1 31 = .ok (.ireturn, 1) := by decide +kernel
set_option maxRecDepth 100000 in
set_option maxHeartbeats 4000000 in
theorem ok_X5_coinOfAll {X : Xb} {S : Sg} {mi : Mem} {t n : Nat} (hT : TwA S t) (hn : mi t 3 = nI n) (hn8 : n ≤ 8) : OkI 0 fX5_coinOfAll X [rf X t] S mi (fld (fun s i => s + mi (t + 9 + i) 3) 0 n) mi := by
  refine Ok.go [some (rf X t), none, none] (by decide) (by simp [Value.category]) (Nat.le_of_ble_eq_true rfl) rfl ?_
  obtain ⟨k_t, ⟨r_t_home, k_t_home⟩, ⟨r_t_price, k_t_price⟩, ⟨r_t_attics, k_t_attics⟩, ⟨r_t_texts, k_t_texts⟩, ⟨r_t_counting, k_t_counting⟩, ⟨r_t_names, k_t_names⟩, ⟨r_t_pile, k_t_pile⟩, ⟨r_t_views, k_t_views⟩, a_t⟩ := id hT
  have lp := mw_dn (P := fun k => MW X fX5_coinOfAll (rmOf 0 0 0) 0 0 4 [some (rf X t), some (.int (fld (fun s i => s + mi (t + 9 + i) 3) 0 k)), some (.int (nI k))] [] S mi (mQ X 0 0 (pI (fld (fun s i => s + mi (t + 9 + i) 3) 0 n) S mi))) n (by
    refine mw_iload_n dX5_coinOfAll_4 rfl ?_
    refine mw_aload_n dX5_coinOfAll_5 rfl ?_
    refine mw_geti dX5_coinOfAll_6 fl_X5_59 rfl (by assumption) ?_
    refine mw_icmp_ge (tgt := 30) dX5_coinOfAll_9 (by decide) (fun h9 => ?_) (fun h9 => ?_)
    · skip
      refine mw_iload_n dX5_coinOfAll_30 rfl ?_
      exact mw_iret dX5_coinOfAll_31 rfl (by decide) (by decide) (⟨rfl, rfl, rfl⟩)
    · skip
      exact absurd (by rw [hn]; exact Int32.le_refl _) h9) (fun k hk ih => by
    refine mw_iload_n dX5_coinOfAll_4 rfl ?_
    refine mw_aload_n dX5_coinOfAll_5 rfl ?_
    refine mw_geti dX5_coinOfAll_6 fl_X5_59 rfl (by assumption) ?_
    refine mw_icmp_ge (tgt := 30) dX5_coinOfAll_9 (by decide) (fun h9 => ?_) (fun h9 => ?_)
    · skip
      exact absurd h9 (by rw [hn]; exact nI_ge hk (by omega))
    · skip
      refine mw_iload_n dX5_coinOfAll_12 rfl ?_
      refine mw_aload_n dX5_coinOfAll_13 rfl ?_
      refine mw_getr dX5_coinOfAll_14 fl_X5_20 rfl (by assumption) (by assumption) ?_
      refine mw_iload_n dX5_coinOfAll_17 rfl ?_
      refine mw_aldK (k := k) dX5_coinOfAll_18 (by assumption) (by decide) (rfl) (by omega) (by decide) ((a_t k (by omega)).1) ?_
      refine mw_geti dX5_coinOfAll_19 fl_X5_178 rfl ((a_t k (by omega)).2) ?_
      refine mw_iadd dX5_coinOfAll_22 ?_
      refine mw_istN 1 dX5_coinOfAll_23 rfl (by decide) ?_
      refine mw_iincK (k := k) dX5_coinOfAll_24 rfl rfl (by decide) ?_
      refine mw_goto (tgt := 4) dX5_coinOfAll_27 (by decide) ?_
      exact MW.back ih (by simp [lsub, fld]))
  refine mw_iconst (v := 0) dX5_coinOfAll_0 (by decide) ?_
  refine mw_istN 1 dX5_coinOfAll_1 rfl (by decide) ?_
  refine mw_iconst (v := 0) dX5_coinOfAll_2 (by decide) ?_
  refine mw_istN 2 dX5_coinOfAll_3 rfl (by decide) ?_
  exact MW.back lp (by simp [lsub, fld, nI_0])
theorem dX5_watchersOf_0 : decode fX5_watchersOf.2.1 0 = .ok (.iconst 0, 1) := by decide +kernel
theorem dX5_watchersOf_1 : decode fX5_watchersOf.2.1 1 = .ok (.istore_n 2, 1) := by decide +kernel
theorem dX5_watchersOf_2 : decode fX5_watchersOf.2.1 2 = .ok (.iconst 0, 1) := by decide +kernel
theorem dX5_watchersOf_3 : decode fX5_watchersOf.2.1 3 = .ok (.istore_n 3, 1) := by decide +kernel
theorem dX5_watchersOf_4 : decode fX5_watchersOf.2.1 4 = .ok (.iload_n 3, 1) := by decide +kernel
theorem dX5_watchersOf_5 : decode fX5_watchersOf.2.1 5 = .ok (.aload_n 0, 1) := by decide +kernel
theorem dX5_watchersOf_6 : decode fX5_watchersOf.2.1 6 = .ok (.getfield 59, 3) := by decide +kernel
theorem dX5_watchersOf_9 : decode fX5_watchersOf.2.1 9 = .ok (.if_icmp .ge 28, 3) := by decide +kernel
theorem dX5_watchersOf_12 : decode fX5_watchersOf.2.1 12 = .ok (.iload_n 2, 1) := by decide +kernel
theorem dX5_watchersOf_13 : decode fX5_watchersOf.2.1 13 = .ok (.aload_n 0, 1) := by decide +kernel
theorem dX5_watchersOf_14 : decode fX5_watchersOf.2.1 14 = .ok (.aload_n 0, 1) := by decide +kernel
theorem dX5_watchersOf_15 : decode fX5_watchersOf.2.1 15 = .ok (.getfield 20, 3) := by decide +kernel
theorem dX5_watchersOf_18 : decode fX5_watchersOf.2.1 18 = .ok (.iload_n 3, 1) := by decide +kernel
theorem dX5_watchersOf_19 : decode fX5_watchersOf.2.1 19 = .ok (.aaload, 1) := by decide +kernel
theorem dX5_watchersOf_20 : decode fX5_watchersOf.2.1 20 = .ok (.invokevirtual 142, 3) := by decide +kernel
theorem dX5_watchersOf_23 : decode fX5_watchersOf.2.1 23 = .ok (.iload_n 1, 1) := by decide +kernel
theorem dX5_watchersOf_24 : decode fX5_watchersOf.2.1 24 = .ok (.ishr, 1) := by decide +kernel
theorem dX5_watchersOf_25 : decode fX5_watchersOf.2.1 25 = .ok (.iconst 1, 1) := by decide +kernel
theorem dX5_watchersOf_26 : decode fX5_watchersOf.2.1 26 = .ok (.iand, 1) := by decide +kernel
theorem dX5_watchersOf_27 : decode fX5_watchersOf.2.1 27 = .ok (.iload_n 3, 1) := by decide +kernel
theorem dX5_watchersOf_28 : decode fX5_watchersOf.2.1 28 = .ok (.ishl, 1) := by decide +kernel
theorem dX5_watchersOf_29 : decode fX5_watchersOf.2.1 29 = .ok (.ior, 1) := by decide +kernel
theorem dX5_watchersOf_30 : decode fX5_watchersOf.2.1 30 = .ok (.istore_n 2, 1) := by decide +kernel
theorem dX5_watchersOf_31 : decode fX5_watchersOf.2.1 31 = .ok (.iinc 3 1, 3) := by decide +kernel
theorem dX5_watchersOf_34 : decode fX5_watchersOf.2.1 34 = .ok (.goto (-30), 3) := by decide +kernel
theorem dX5_watchersOf_37 : decode fX5_watchersOf.2.1 37 = .ok (.iload_n 2, 1) := by decide +kernel
theorem dX5_watchersOf_38 : decode fX5_watchersOf.2.1 38 = .ok (.ireturn, 1) := by decide +kernel
set_option maxRecDepth 100000 in
set_option maxHeartbeats 4000000 in
theorem ok_X5_watchersOf {X : Xb} {S : Sg} {mi : Mem} {t n : Nat} {j : Int32} (hT : TwA S t) (hn : mi t 3 = nI n) (hn8 : n ≤ 8) : OkI 3 fX5_watchersOf X [rf X t, .int j] S mi (fld (fun s i => s ||| ((cSeesA mi t i >>> (j &&& 31) &&& 1) <<< (nI i &&& 31))) 0 n) mi := by
  refine Ok.go [some (rf X t), some (.int j), none, none] (by decide) (by simp [Value.category]) (Nat.le_of_ble_eq_true rfl) rfl ?_
  obtain ⟨k_t, ⟨r_t_home, k_t_home⟩, ⟨r_t_price, k_t_price⟩, ⟨r_t_attics, k_t_attics⟩, ⟨r_t_texts, k_t_texts⟩, ⟨r_t_counting, k_t_counting⟩, ⟨r_t_names, k_t_names⟩, ⟨r_t_pile, k_t_pile⟩, ⟨r_t_views, k_t_views⟩, a_t⟩ := id hT
  have lp := mw_dn (P := fun k => MW X fX5_watchersOf (rmOf 3 0 0) 0 0 4 [some (rf X t), some (.int j), some (.int (fld (fun s i => s ||| ((cSeesA mi t i >>> (j &&& 31) &&& 1) <<< (nI i &&& 31))) 0 k)), some (.int (nI k))] [] S mi (mQ X 0 0 (pI (fld (fun s i => s ||| ((cSeesA mi t i >>> (j &&& 31) &&& 1) <<< (nI i &&& 31))) 0 n) S mi))) n (by
    refine mw_iload_n dX5_watchersOf_4 rfl ?_
    refine mw_aload_n dX5_watchersOf_5 rfl ?_
    refine mw_geti dX5_watchersOf_6 fl_X5_59 rfl (by assumption) ?_
    refine mw_icmp_ge (tgt := 37) dX5_watchersOf_9 (by decide) (fun h9 => ?_) (fun h9 => ?_)
    · skip
      refine mw_iload_n dX5_watchersOf_37 rfl ?_
      exact mw_iret dX5_watchersOf_38 rfl (by decide) (by decide) (⟨rfl, rfl, rfl⟩)
    · skip
      exact absurd (by rw [hn]; exact Int32.le_refl _) h9) (fun k hk ih => by
    refine mw_iload_n dX5_watchersOf_4 rfl ?_
    refine mw_aload_n dX5_watchersOf_5 rfl ?_
    refine mw_geti dX5_watchersOf_6 fl_X5_59 rfl (by assumption) ?_
    refine mw_icmp_ge (tgt := 37) dX5_watchersOf_9 (by decide) (fun h9 => ?_) (fun h9 => ?_)
    · skip
      exact absurd h9 (by rw [hn]; exact nI_ge hk (by omega))
    · skip
      refine mw_iload_n dX5_watchersOf_12 rfl ?_
      refine mw_aload_n dX5_watchersOf_13 rfl ?_
      refine mw_aload_n dX5_watchersOf_14 rfl ?_
      refine mw_getr dX5_watchersOf_15 fl_X5_20 rfl (by assumption) (by assumption) ?_
      refine mw_iload_n dX5_watchersOf_18 rfl ?_
      refine mw_aldK (k := k) dX5_watchersOf_19 (by assumption) (by decide) (rfl) (by omega) (by decide) ((a_t k (by omega)).1) ?_
      refine mw_cVI (g := fX5_seenBy) dX5_watchersOf_20 ml_X5_142 mfX5_seenBy (ok_X5_seenBy hT (a_t k (by omega)).2) (by assumption) rfl rfl (Nat.le_of_ble_eq_true rfl) ⟨by decide, by decide⟩ ⟨by decide, by decide⟩ ?_
      refine mw_iload_n dX5_watchersOf_23 rfl ?_
      refine mw_ishr dX5_watchersOf_24 ?_
      refine mw_iconst (v := 1) dX5_watchersOf_25 (by decide) ?_
      refine mw_iand dX5_watchersOf_26 ?_
      refine mw_iload_n dX5_watchersOf_27 rfl ?_
      refine mw_ishl dX5_watchersOf_28 ?_
      refine mw_ior dX5_watchersOf_29 ?_
      refine mw_istN 2 dX5_watchersOf_30 rfl (by decide) ?_
      refine mw_iincK (k := k) dX5_watchersOf_31 rfl rfl (by decide) ?_
      refine mw_goto (tgt := 4) dX5_watchersOf_34 (by decide) ?_
      exact MW.back ih (by simp [lsub, fld]))
  refine mw_iconst (v := 0) dX5_watchersOf_0 (by decide) ?_
  refine mw_istN 2 dX5_watchersOf_1 rfl (by decide) ?_
  refine mw_iconst (v := 0) dX5_watchersOf_2 (by decide) ?_
  refine mw_istN 3 dX5_watchersOf_3 rfl (by decide) ?_
  exact MW.back lp (by simp [lsub, fld, nI_0])
theorem dX5_dark_0 : decode fX5_dark.2.1 0 = .ok (.iconst 0, 1) := by decide +kernel
theorem dX5_dark_1 : decode fX5_dark.2.1 1 = .ok (.istore_n 1, 1) := by decide +kernel
theorem dX5_dark_2 : decode fX5_dark.2.1 2 = .ok (.iconst 0, 1) := by decide +kernel
theorem dX5_dark_3 : decode fX5_dark.2.1 3 = .ok (.istore_n 2, 1) := by decide +kernel
theorem dX5_dark_4 : decode fX5_dark.2.1 4 = .ok (.iload_n 2, 1) := by decide +kernel
theorem dX5_dark_5 : decode fX5_dark.2.1 5 = .ok (.aload_n 0, 1) := by decide +kernel
theorem dX5_dark_6 : decode fX5_dark.2.1 6 = .ok (.getfield 59, 3) := by decide +kernel
theorem dX5_dark_9 : decode fX5_dark.2.1 9 = .ok (.if_icmp .ge 22, 3) := by decide +kernel
theorem dX5_dark_12 : decode fX5_dark.2.1 12 = .ok (.iload_n 1, 1) := by decide +kernel
theorem dX5_dark_13 : decode fX5_dark.2.1 13 = .ok (.aload_n 0, 1) := by decide +kernel
theorem dX5_dark_14 : decode fX5_dark.2.1 14 = .ok (.aload_n 0, 1) := by decide +kernel
theorem dX5_dark_15 : decode fX5_dark.2.1 15 = .ok (.getfield 20, 3) := by decide +kernel
theorem dX5_dark_18 : decode fX5_dark.2.1 18 = .ok (.iload_n 2, 1) := by decide +kernel
theorem dX5_dark_19 : decode fX5_dark.2.1 19 = .ok (.aaload, 1) := by decide +kernel
theorem dX5_dark_20 : decode fX5_dark.2.1 20 = .ok (.invokevirtual 142, 3) := by decide +kernel
theorem dX5_dark_23 : decode fX5_dark.2.1 23 = .ok (.ior, 1) := by decide +kernel
theorem dX5_dark_24 : decode fX5_dark.2.1 24 = .ok (.istore_n 1, 1) := by decide +kernel
theorem dX5_dark_25 : decode fX5_dark.2.1 25 = .ok (.iinc 2 1, 3) := by decide +kernel
theorem dX5_dark_28 : decode fX5_dark.2.1 28 = .ok (.goto (-24), 3) := by decide +kernel
theorem dX5_dark_31 : decode fX5_dark.2.1 31 = .ok (.sipush 255, 3) := by decide +kernel
theorem dX5_dark_34 : decode fX5_dark.2.1 34 = .ok (.iload_n 1, 1) := by decide +kernel
theorem dX5_dark_35 : decode fX5_dark.2.1 35 = .ok (.iconst (-1), 1) := by decide +kernel
theorem dX5_dark_36 : decode fX5_dark.2.1 36 = .ok (.ixor, 1) := by decide +kernel
theorem dX5_dark_37 : decode fX5_dark.2.1 37 = .ok (.iand, 1) := by decide +kernel
theorem dX5_dark_38 : decode fX5_dark.2.1 38 = .ok (.ireturn, 1) := by decide +kernel
set_option maxRecDepth 100000 in
set_option maxHeartbeats 4000000 in
theorem ok_X5_dark {X : Xb} {S : Sg} {mi : Mem} {t n : Nat} (hT : TwA S t) (hn : mi t 3 = nI n) (hn8 : n ≤ 8) : OkI 3 fX5_dark X [rf X t] S mi (255 &&& (fld (fun s i => s ||| cSeesA mi t i) 0 n ^^^ (-1))) mi := by
  refine Ok.go [some (rf X t), none, none] (by decide) (by simp [Value.category]) (Nat.le_of_ble_eq_true rfl) rfl ?_
  obtain ⟨k_t, ⟨r_t_home, k_t_home⟩, ⟨r_t_price, k_t_price⟩, ⟨r_t_attics, k_t_attics⟩, ⟨r_t_texts, k_t_texts⟩, ⟨r_t_counting, k_t_counting⟩, ⟨r_t_names, k_t_names⟩, ⟨r_t_pile, k_t_pile⟩, ⟨r_t_views, k_t_views⟩, a_t⟩ := id hT
  have lp := mw_dn (P := fun k => MW X fX5_dark (rmOf 3 0 0) 0 0 4 [some (rf X t), some (.int (fld (fun s i => s ||| cSeesA mi t i) 0 k)), some (.int (nI k))] [] S mi (mQ X 0 0 (pI (255 &&& (fld (fun s i => s ||| cSeesA mi t i) 0 n ^^^ (-1))) S mi))) n (by
    refine mw_iload_n dX5_dark_4 rfl ?_
    refine mw_aload_n dX5_dark_5 rfl ?_
    refine mw_geti dX5_dark_6 fl_X5_59 rfl (by assumption) ?_
    refine mw_icmp_ge (tgt := 31) dX5_dark_9 (by decide) (fun h9 => ?_) (fun h9 => ?_)
    · skip
      refine mw_sipush (v := 255) dX5_dark_31 (by decide) ?_
      refine mw_iload_n dX5_dark_34 rfl ?_
      refine mw_iconst (v := (-1)) dX5_dark_35 (by decide) ?_
      refine mw_ixor dX5_dark_36 ?_
      refine mw_iand dX5_dark_37 ?_
      exact mw_iret dX5_dark_38 rfl (by decide) (by decide) (⟨rfl, rfl, rfl⟩)
    · skip
      exact absurd (by rw [hn]; exact Int32.le_refl _) h9) (fun k hk ih => by
    refine mw_iload_n dX5_dark_4 rfl ?_
    refine mw_aload_n dX5_dark_5 rfl ?_
    refine mw_geti dX5_dark_6 fl_X5_59 rfl (by assumption) ?_
    refine mw_icmp_ge (tgt := 31) dX5_dark_9 (by decide) (fun h9 => ?_) (fun h9 => ?_)
    · skip
      exact absurd h9 (by rw [hn]; exact nI_ge hk (by omega))
    · skip
      refine mw_iload_n dX5_dark_12 rfl ?_
      refine mw_aload_n dX5_dark_13 rfl ?_
      refine mw_aload_n dX5_dark_14 rfl ?_
      refine mw_getr dX5_dark_15 fl_X5_20 rfl (by assumption) (by assumption) ?_
      refine mw_iload_n dX5_dark_18 rfl ?_
      refine mw_aldK (k := k) dX5_dark_19 (by assumption) (by decide) (rfl) (by omega) (by decide) ((a_t k (by omega)).1) ?_
      refine mw_cVI (g := fX5_seenBy) dX5_dark_20 ml_X5_142 mfX5_seenBy (ok_X5_seenBy hT (a_t k (by omega)).2) (by assumption) rfl rfl (Nat.le_of_ble_eq_true rfl) ⟨by decide, by decide⟩ ⟨by decide, by decide⟩ ?_
      refine mw_ior dX5_dark_23 ?_
      refine mw_istN 1 dX5_dark_24 rfl (by decide) ?_
      refine mw_iincK (k := k) dX5_dark_25 rfl rfl (by decide) ?_
      refine mw_goto (tgt := 4) dX5_dark_28 (by decide) ?_
      exact MW.back ih (by simp [lsub, fld]))
  refine mw_iconst (v := 0) dX5_dark_0 (by decide) ?_
  refine mw_istN 1 dX5_dark_1 rfl (by decide) ?_
  refine mw_iconst (v := 0) dX5_dark_2 (by decide) ?_
  refine mw_istN 2 dX5_dark_3 rfl (by decide) ?_
  exact MW.back lp (by simp [lsub, fld, nI_0])
theorem dX5_viewOf_0 : decode fX5_viewOf.2.1 0 = .ok (.iconst 0, 1) := by decide +kernel
theorem dX5_viewOf_1 : decode fX5_viewOf.2.1 1 = .ok (.istore_n 2, 1) := by decide +kernel
theorem dX5_viewOf_2 : decode fX5_viewOf.2.1 2 = .ok (.iconst 0, 1) := by decide +kernel
theorem dX5_viewOf_3 : decode fX5_viewOf.2.1 3 = .ok (.istore_n 3, 1) := by decide +kernel
theorem dX5_viewOf_4 : decode fX5_viewOf.2.1 4 = .ok (.iload_n 3, 1) := by decide +kernel
theorem dX5_viewOf_5 : decode fX5_viewOf.2.1 5 = .ok (.aload_n 0, 1) := by decide +kernel
theorem dX5_viewOf_6 : decode fX5_viewOf.2.1 6 = .ok (.getfield 59, 3) := by decide +kernel
theorem dX5_viewOf_9 : decode fX5_viewOf.2.1 9 = .ok (.if_icmp .ge 27, 3) := by decide +kernel
theorem dX5_viewOf_12 : decode fX5_viewOf.2.1 12 = .ok (.iload_n 1, 1) := by decide +kernel
theorem dX5_viewOf_13 : decode fX5_viewOf.2.1 13 = .ok (.iload_n 3, 1) := by decide +kernel
theorem dX5_viewOf_14 : decode fX5_viewOf.2.1 14 = .ok (.ishr, 1) := by decide +kernel
theorem dX5_viewOf_15 : decode fX5_viewOf.2.1 15 = .ok (.iconst 1, 1) := by decide +kernel
theorem dX5_viewOf_16 : decode fX5_viewOf.2.1 16 = .ok (.iand, 1) := by decide +kernel
theorem dX5_viewOf_17 : decode fX5_viewOf.2.1 17 = .ok (.iconst 1, 1) := by decide +kernel
theorem dX5_viewOf_18 : decode fX5_viewOf.2.1 18 = .ok (.if_icmp .ne 12, 3) := by decide +kernel
theorem dX5_viewOf_21 : decode fX5_viewOf.2.1 21 = .ok (.iload_n 2, 1) := by decide +kernel
theorem dX5_viewOf_22 : decode fX5_viewOf.2.1 22 = .ok (.aload_n 0, 1) := by decide +kernel
theorem dX5_viewOf_23 : decode fX5_viewOf.2.1 23 = .ok (.getfield 49, 3) := by decide +kernel
theorem dX5_viewOf_26 : decode fX5_viewOf.2.1 26 = .ok (.iload_n 3, 1) := by decide +kernel
theorem dX5_viewOf_27 : decode fX5_viewOf.2.1 27 = .ok (.iaload, 1) := by decide +kernel
theorem dX5_viewOf_28 : decode fX5_viewOf.2.1 28 = .ok (.ior, 1) := by decide +kernel
theorem dX5_viewOf_29 : decode fX5_viewOf.2.1 29 = .ok (.istore_n 2, 1) := by decide +kernel
theorem dX5_viewOf_30 : decode fX5_viewOf.2.1 30 = .ok (.iinc 3 1, 3) := by decide +kernel
theorem dX5_viewOf_33 : decode fX5_viewOf.2.1 33 = .ok (.goto (-29), 3) := by decide +kernel
theorem dX5_viewOf_36 : decode fX5_viewOf.2.1 36 = .ok (.iload_n 2, 1) := by decide +kernel
theorem dX5_viewOf_37 : decode fX5_viewOf.2.1 37 = .ok (.ireturn, 1) := by decide +kernel
set_option maxRecDepth 100000 in
set_option maxHeartbeats 4000000 in
theorem ok_X5_viewOf {X : Xb} {S : Sg} {mi : Mem} {t n : Nat} {j : Int32} (hT : TwA S t) (hn : mi t 3 = nI n) (hn8 : n ≤ 8) : OkI 0 fX5_viewOf X [rf X t, .int j] S mi (fld (fun s i => if j >>> (nI i &&& 31) &&& 1 = 1 then s ||| mi (t + 8) i else s) 0 n) mi := by
  refine Ok.go [some (rf X t), some (.int j), none, none] (by decide) (by simp [Value.category]) (Nat.le_of_ble_eq_true rfl) rfl ?_
  obtain ⟨k_t, ⟨r_t_home, k_t_home⟩, ⟨r_t_price, k_t_price⟩, ⟨r_t_attics, k_t_attics⟩, ⟨r_t_texts, k_t_texts⟩, ⟨r_t_counting, k_t_counting⟩, ⟨r_t_names, k_t_names⟩, ⟨r_t_pile, k_t_pile⟩, ⟨r_t_views, k_t_views⟩, a_t⟩ := id hT
  have lp := mw_dn (P := fun k => MW X fX5_viewOf (rmOf 0 0 0) 0 0 4 [some (rf X t), some (.int j), some (.int (fld (fun s i => if j >>> (nI i &&& 31) &&& 1 = 1 then s ||| mi (t + 8) i else s) 0 k)), some (.int (nI k))] [] S mi (mQ X 0 0 (pI (fld (fun s i => if j >>> (nI i &&& 31) &&& 1 = 1 then s ||| mi (t + 8) i else s) 0 n) S mi))) n (by
    refine mw_iload_n dX5_viewOf_4 rfl ?_
    refine mw_aload_n dX5_viewOf_5 rfl ?_
    refine mw_geti dX5_viewOf_6 fl_X5_59 rfl (by assumption) ?_
    refine mw_icmp_ge (tgt := 36) dX5_viewOf_9 (by decide) (fun h9 => ?_) (fun h9 => ?_)
    · skip
      refine mw_iload_n dX5_viewOf_36 rfl ?_
      exact mw_iret dX5_viewOf_37 rfl (by decide) (by decide) (⟨rfl, rfl, rfl⟩)
    · skip
      exact absurd (by rw [hn]; exact Int32.le_refl _) h9) (fun k hk ih => by
    refine mw_iload_n dX5_viewOf_4 rfl ?_
    refine mw_aload_n dX5_viewOf_5 rfl ?_
    refine mw_geti dX5_viewOf_6 fl_X5_59 rfl (by assumption) ?_
    refine mw_icmp_ge (tgt := 36) dX5_viewOf_9 (by decide) (fun h9 => ?_) (fun h9 => ?_)
    · skip
      exact absurd h9 (by rw [hn]; exact nI_ge hk (by omega))
    · skip
      refine mw_iload_n dX5_viewOf_12 rfl ?_
      refine mw_iload_n dX5_viewOf_13 rfl ?_
      refine mw_ishr dX5_viewOf_14 ?_
      refine mw_iconst (v := 1) dX5_viewOf_15 (by decide) ?_
      refine mw_iand dX5_viewOf_16 ?_
      refine mw_iconst (v := 1) dX5_viewOf_17 (by decide) ?_
      refine mw_icmp_ne (tgt := 30) dX5_viewOf_18 (by decide) (fun h18 => ?_) (fun h18 => ?_)
      · skip
        refine mw_iincK (k := k) dX5_viewOf_30 rfl rfl (by decide) ?_
        refine mw_goto (tgt := 4) dX5_viewOf_33 (by decide) ?_
        exact MW.back ih (by simp [lsub, fld, h18])
      · skip
        refine mw_iload_n dX5_viewOf_21 rfl ?_
        refine mw_aload_n dX5_viewOf_22 rfl ?_
        refine mw_getr dX5_viewOf_23 fl_X5_49 rfl (by assumption) (by assumption) ?_
        refine mw_iload_n dX5_viewOf_26 rfl ?_
        refine mw_ialdK (k := k) dX5_viewOf_27 (by assumption) (rfl) (by omega) (by decide) ?_
        refine mw_ior dX5_viewOf_28 ?_
        refine mw_istN 2 dX5_viewOf_29 rfl (by decide) ?_
        refine mw_iincK (k := k) dX5_viewOf_30 rfl rfl (by decide) ?_
        refine mw_goto (tgt := 4) dX5_viewOf_33 (by decide) ?_
        exact MW.back ih (by simp [lsub, fld, h18]))
  refine mw_iconst (v := 0) dX5_viewOf_0 (by decide) ?_
  refine mw_istN 2 dX5_viewOf_1 rfl (by decide) ?_
  refine mw_iconst (v := 0) dX5_viewOf_2 (by decide) ?_
  refine mw_istN 3 dX5_viewOf_3 rfl (by decide) ?_
  exact MW.back lp (by simp [lsub, fld, nI_0])
end
section
/-! the model: what it reads -/
theorem ixA (a w : Nat) : (26 : Int32) + 5 * nI a + nI w = nI (26 + 5 * a + w) := by
  show nI 26 + nI 5 * nI a + nI w = _
  rw [nI_mul, nI_add, nI_add]
theorem ix10 (k : Nat) : (10 : Int32) + nI k = nI (10 + k) := by
  show nI 10 + nI k = _
  rw [nI_add]
theorem ix18 (k : Nat) : (18 : Int32) + nI k = nI (18 + k) := by
  show nI 18 + nI k = _
  rw [nI_add]
theorem ix66 (k : Nat) : (66 : Int32) + 2 * nI k = nI (66 + 2 * k) := by
  show nI 66 + nI 2 * nI k = _
  rw [nI_mul, nI_add]
theorem ix94 (t k : Nat) : (94 : Int32) + 96 * nI t + nI k = nI (94 + 96 * t + k) := by
  show nI 94 + nI 96 * nI t + nI k = _
  rw [nI_mul, nI_add, nI_add]
theorem dX7_in_0 : decode fX7_in.2.1 0 = .ok (.iload_n 0, 1) := by decide +kernel
theorem dX7_in_1 : decode fX7_in.2.1 1 = .ok (.iload_n 1, 1) := by decide +kernel
theorem dX7_in_2 : decode fX7_in.2.1 2 = .ok (.if_icmp .lt 12, 3) := by decide +kernel
theorem dX7_in_5 : decode fX7_in.2.1 5 = .ok (.iload_n 0, 1) := by decide +kernel
theorem dX7_in_6 : decode fX7_in.2.1 6 = .ok (.iload_n 2, 1) := by decide +kernel
theorem dX7_in_7 : decode fX7_in.2.1 7 = .ok (.if_icmp .gt 7, 3) := by decide +kernel
theorem dX7_in_10 : decode fX7_in.2.1 10 = .ok (.iconst 1, 1) := by decide +kernel
theorem dX7_in_11 : decode fX7_in.2.1 11 = .ok (.goto 4, 3) := by decide +kernel
theorem dX7_in_14 : decode fX7_in.2.1 14 = .ok (.iconst 0, 1) := by decide +kernel
theorem dX7_in_15 : decode fX7_in.2.1 15 = .ok (.ireturn, 1) := by decide +kernel
set_option maxRecDepth 100000 in
set_option maxHeartbeats 4000000 in
theorem ok_X7_in {X : Xb} {S : Sg} {mi : Mem} {v lo hi : Int32} : OkI 0 fX7_in X [.int v, .int lo, .int hi] S mi (b2i (lo ≤ v ∧ v ≤ hi)) mi := by
  refine Ok.go [some (.int v), some (.int lo), some (.int hi)] (by decide) (by simp [Value.category]) (Nat.le_of_ble_eq_true rfl) rfl ?_
  refine mw_iload_n dX7_in_0 rfl ?_
  refine mw_iload_n dX7_in_1 rfl ?_
  refine mw_icmp_lt (tgt := 14) dX7_in_2 (by decide) (fun h2 => ?_) (fun h2 => ?_)
  · skip
    refine mw_iconst (v := 0) dX7_in_14 (by decide) ?_
    exact mw_bret dX7_in_15 rfl (by first | exact Or.inl rfl | exact Or.inr rfl | exact b2i_01) (by decide) (by decide) (⟨by grind [b2i], rfl, rfl⟩)
  · skip
    refine mw_iload_n dX7_in_5 rfl ?_
    refine mw_iload_n dX7_in_6 rfl ?_
    refine mw_icmp_gt (tgt := 14) dX7_in_7 (by decide) (fun h7 => ?_) (fun h7 => ?_)
    · skip
      refine mw_iconst (v := 0) dX7_in_14 (by decide) ?_
      exact mw_bret dX7_in_15 rfl (by first | exact Or.inl rfl | exact Or.inr rfl | exact b2i_01) (by decide) (by decide) (⟨by grind [b2i], rfl, rfl⟩)
    · skip
      refine mw_iconst (v := 1) dX7_in_10 (by decide) ?_
      refine mw_goto (tgt := 15) dX7_in_11 (by decide) ?_
      exact mw_bret dX7_in_15 rfl (by first | exact Or.inl rfl | exact Or.inr rfl | exact b2i_01) (by decide) (by decide) (⟨by grind [b2i], rfl, rfl⟩)
theorem dX7_within_0 : decode fX7_within.2.1 0 = .ok (.iload_n 0, 1) := by decide +kernel
theorem dX7_within_1 : decode fX7_within.2.1 1 = .ok (.iload_n 1, 1) := by decide +kernel
theorem dX7_within_2 : decode fX7_within.2.1 2 = .ok (.if_icmp .ge 7, 3) := by decide +kernel
theorem dX7_within_5 : decode fX7_within.2.1 5 = .ok (.iload_n 1, 1) := by decide +kernel
theorem dX7_within_6 : decode fX7_within.2.1 6 = .ok (.goto 13, 3) := by decide +kernel
theorem dX7_within_9 : decode fX7_within.2.1 9 = .ok (.iload_n 0, 1) := by decide +kernel
theorem dX7_within_10 : decode fX7_within.2.1 10 = .ok (.iload_n 2, 1) := by decide +kernel
theorem dX7_within_11 : decode fX7_within.2.1 11 = .ok (.if_icmp .le 7, 3) := by decide +kernel
theorem dX7_within_14 : decode fX7_within.2.1 14 = .ok (.iload_n 2, 1) := by decide +kernel
theorem dX7_within_15 : decode fX7_within.2.1 15 = .ok (.goto 4, 3) := by decide +kernel
theorem dX7_within_18 : decode fX7_within.2.1 18 = .ok (.iload_n 0, 1) := by decide +kernel
theorem dX7_within_19 : decode fX7_within.2.1 19 = .ok (.ireturn, 1) := by decide +kernel
set_option maxRecDepth 100000 in
set_option maxHeartbeats 4000000 in
theorem ok_X7_within {X : Xb} {S : Sg} {mi : Mem} {v lo hi : Int32} : OkI 0 fX7_within X [.int v, .int lo, .int hi] S mi (clampI v lo hi) mi := by
  refine Ok.go [some (.int v), some (.int lo), some (.int hi)] (by decide) (by simp [Value.category]) (Nat.le_of_ble_eq_true rfl) rfl ?_
  refine mw_iload_n dX7_within_0 rfl ?_
  refine mw_iload_n dX7_within_1 rfl ?_
  refine mw_icmp_ge (tgt := 9) dX7_within_2 (by decide) (fun h2 => ?_) (fun h2 => ?_)
  · skip
    refine mw_iload_n dX7_within_9 rfl ?_
    refine mw_iload_n dX7_within_10 rfl ?_
    refine mw_icmp_le (tgt := 18) dX7_within_11 (by decide) (fun h11 => ?_) (fun h11 => ?_)
    · skip
      refine mw_iload_n dX7_within_18 rfl ?_
      exact mw_iret dX7_within_19 rfl (by decide) (by decide) (⟨by grind [clampI], rfl, rfl⟩)
    · skip
      refine mw_iload_n dX7_within_14 rfl ?_
      refine mw_goto (tgt := 19) dX7_within_15 (by decide) ?_
      exact mw_iret dX7_within_19 rfl (by decide) (by decide) (⟨by grind [clampI], rfl, rfl⟩)
  · skip
    refine mw_iload_n dX7_within_5 rfl ?_
    refine mw_goto (tgt := 19) dX7_within_6 (by decide) ?_
    exact mw_iret dX7_within_19 rfl (by decide) (by decide) (⟨by grind [clampI], rfl, rfl⟩)
theorem dX7_copyAll_0 : decode fX7_copyAll.2.1 0 = .ok (.iconst 0, 1) := by decide +kernel
theorem dX7_copyAll_1 : decode fX7_copyAll.2.1 1 = .ok (.istore_n 2, 1) := by decide +kernel
theorem dX7_copyAll_2 : decode fX7_copyAll.2.1 2 = .ok (.iload_n 2, 1) := by decide +kernel
theorem dX7_copyAll_3 : decode fX7_copyAll.2.1 3 = .ok (.sipush 1438, 3) := by decide +kernel
theorem dX7_copyAll_6 : decode fX7_copyAll.2.1 6 = .ok (.if_icmp .ge 15, 3) := by decide +kernel
theorem dX7_copyAll_9 : decode fX7_copyAll.2.1 9 = .ok (.aload_n 1, 1) := by decide +kernel
theorem dX7_copyAll_10 : decode fX7_copyAll.2.1 10 = .ok (.iload_n 2, 1) := by decide +kernel
theorem dX7_copyAll_11 : decode fX7_copyAll.2.1 11 = .ok (.aload_n 0, 1) := by decide +kernel
theorem dX7_copyAll_12 : decode fX7_copyAll.2.1 12 = .ok (.iload_n 2, 1) := by decide +kernel
theorem dX7_copyAll_13 : decode fX7_copyAll.2.1 13 = .ok (.iaload, 1) := by decide +kernel
theorem dX7_copyAll_14 : decode fX7_copyAll.2.1 14 = .ok (.iastore, 1) := by decide +kernel
theorem dX7_copyAll_15 : decode fX7_copyAll.2.1 15 = .ok (.iinc 2 1, 3) := by decide +kernel
theorem dX7_copyAll_18 : decode fX7_copyAll.2.1 18 = .ok (.goto (-16), 3) := by decide +kernel
theorem dX7_copyAll_21 : decode fX7_copyAll.2.1 21 = .ok (.return_, 1) := by decide +kernel
set_option maxRecDepth 100000 in
set_option maxHeartbeats 4000000 in
theorem ok_X7_copyAll {X : Xb} {S : Sg} {mi : Mem} {p q : Nat} (hp : Kd S p 8 1438) (hq : Kd S q 8 1438) (hpq : p ≠ q) : OkV 0 fX7_copyAll X [rf X p, rf X q] S mi (m_cpy mi p q 0 0 1438) := by
  refine Ok.go [some (rf X p), some (rf X q), none] (by decide) (by simp [Value.category]) (Nat.le_of_ble_eq_true rfl) rfl ?_
  have lp := mw_dn (P := fun k => MW X fX7_copyAll (rmOf 0 0 0) 0 0 2 [some (rf X p), some (rf X q), some (.int (nI k))] [] S (m_cpy mi p q 0 0 k) (mQ X 0 0 (pV S (m_cpy mi p q 0 0 1438)))) 1438 (by
    refine mw_iload_n dX7_copyAll_2 rfl ?_
    refine mw_sipush (v := 1438) dX7_copyAll_3 (by decide) ?_
    refine mw_icmp_ge (tgt := 21) dX7_copyAll_6 (by decide) (fun h6 => ?_) (fun h6 => ?_)
    · skip
      exact mw_vret dX7_copyAll_21 rfl (by decide) (by decide) (⟨rfl, rfl, rfl⟩)
    · skip
      exact absurd (by decide) h6) (fun k hk ih => by
    refine mw_iload_n dX7_copyAll_2 rfl ?_
    refine mw_sipush (v := 1438) dX7_copyAll_3 (by decide) ?_
    refine mw_icmp_ge (tgt := 21) dX7_copyAll_6 (by decide) (fun h6 => ?_) (fun h6 => ?_)
    · skip
      exact absurd h6 (nI_ge (b := 1438) (by omega) (by decide))
    · skip
      refine mw_aload_n dX7_copyAll_9 rfl ?_
      refine mw_iload_n dX7_copyAll_10 rfl ?_
      refine mw_aload_n dX7_copyAll_11 rfl ?_
      refine mw_iload_n dX7_copyAll_12 rfl ?_
      refine mw_ialdK (k := k) dX7_copyAll_13 (by assumption) (rfl) (by omega) (by decide) ?_
      refine mw_iastK (k := k) dX7_copyAll_14 (by assumption) (rfl) (by omega) (by decide) ?_
      refine mw_iincK (k := k) dX7_copyAll_15 rfl rfl (by decide) ?_
      refine mw_goto (tgt := 2) dX7_copyAll_18 (by decide) ?_
      refine MW.back ih ⟨by simp [lsub], rfl, rfl, ?_⟩
      funext i j
      simp only [m_up, m_cpy]
      grind)
  refine mw_iconst (v := 0) dX7_copyAll_0 (by decide) ?_
  refine mw_istN 2 dX7_copyAll_1 rfl (by decide) ?_
  refine MW.back lp ⟨by simp [lsub, nI_0], rfl, rfl, ?_⟩
  funext i j
  simp only [m_cpy]
  grind
theorem dX7_isAttic_0 : decode fX7_isAttic.2.1 0 = .ok (.iload_n 1, 1) := by decide +kernel
theorem dX7_isAttic_1 : decode fX7_isAttic.2.1 1 = .ok (.iconst 0, 1) := by decide +kernel
theorem dX7_isAttic_2 : decode fX7_isAttic.2.1 2 = .ok (.aload_n 0, 1) := by decide +kernel
theorem dX7_isAttic_3 : decode fX7_isAttic.2.1 3 = .ok (.getfield 9, 3) := by decide +kernel
theorem dX7_isAttic_6 : decode fX7_isAttic.2.1 6 = .ok (.iconst 1, 1) := by decide +kernel
theorem dX7_isAttic_7 : decode fX7_isAttic.2.1 7 = .ok (.iaload, 1) := by decide +kernel
theorem dX7_isAttic_8 : decode fX7_isAttic.2.1 8 = .ok (.iconst 1, 1) := by decide +kernel
theorem dX7_isAttic_9 : decode fX7_isAttic.2.1 9 = .ok (.isub, 1) := by decide +kernel
theorem dX7_isAttic_10 : decode fX7_isAttic.2.1 10 = .ok (.invokestatic 78, 3) := by decide +kernel
theorem dX7_isAttic_13 : decode fX7_isAttic.2.1 13 = .ok (.ireturn, 1) := by decide +kernel
set_option maxRecDepth 100000 in
set_option maxHeartbeats 4000000 in
theorem ok_X7_isAttic {X : Xb} {S : Sg} {mi : Mem} {o : Nat} {v : Int32} (hM : MdA S o) : OkI 1 fX7_isAttic X [rf X o, .int v] S mi (b2i (0 ≤ v ∧ v ≤ mi (o + 1) 1 - 1)) mi := by
  refine Ok.go [some (rf X o), some (.int v)] (by decide) (by simp [Value.category]) (Nat.le_of_ble_eq_true rfl) rfl ?_
  obtain ⟨k_o, ⟨r_o_now, k_o_now⟩, ⟨r_o_image, k_o_image⟩, ⟨r_o_aside, k_o_aside⟩, ⟨r_o_seen, k_o_seen⟩, ⟨r_o_unlike, k_o_unlike⟩, ⟨r_o_tape, k_o_tape⟩, ⟨r_o_keys, k_o_keys⟩, ⟨r_o_keyAt, k_o_keyAt⟩, ⟨r_o_code, k_o_code⟩, ⟨r_o_waits, k_o_waits⟩, ⟨r_o_tested, k_o_tested⟩, ⟨r_o_stack, k_o_stack⟩, ⟨r_o_facts, k_o_facts⟩, ⟨r_o_sorts, k_o_sorts⟩, ⟨r_o_sizes, k_o_sizes⟩, ⟨r_o_cells, k_o_cells⟩, ⟨r_o_holds, k_o_holds⟩, ⟨r_o_holdsA, k_o_holdsA⟩, ⟨r_o_holdsB, k_o_holdsB⟩, ⟨r_o_heldCells, k_o_heldCells⟩, ⟨r_o_moved, k_o_moved⟩, ⟨r_o_tells, k_o_tells⟩⟩ := id hM
  refine mw_iload_n dX7_isAttic_0 rfl ?_
  refine mw_iconst (v := 0) dX7_isAttic_1 (by decide) ?_
  refine mw_aload_n dX7_isAttic_2 rfl ?_
  refine mw_getr dX7_isAttic_3 fl_X7_9 rfl (by assumption) (by assumption) ?_
  refine mw_iconst (v := 1) dX7_isAttic_6 (by decide) ?_
  refine mw_ialdK (k := 1) dX7_isAttic_7 (by assumption) (rfl) (by decide) (by decide) ?_
  refine mw_iconst (v := 1) dX7_isAttic_8 (by decide) ?_
  refine mw_isub dX7_isAttic_9 ?_
  refine mw_cSI (g := fX7_in) dX7_isAttic_10 ml_X7_78 mfX7_in (ok_X7_in) rfl rfl (Nat.le_of_ble_eq_true rfl) ⟨by decide, by decide⟩ ⟨by decide, by decide⟩ ?_
  exact mw_bret dX7_isAttic_13 rfl (by first | exact Or.inl rfl | exact Or.inr rfl | exact b2i_01) (by decide) (by decide) (⟨rfl, rfl, rfl⟩)
theorem dX7_isStar_0 : decode fX7_isStar.2.1 0 = .ok (.iload_n 0, 1) := by decide +kernel
theorem dX7_isStar_1 : decode fX7_isStar.2.1 1 = .ok (.iconst 0, 1) := by decide +kernel
theorem dX7_isStar_2 : decode fX7_isStar.2.1 2 = .ok (.bipush 7, 2) := by decide +kernel
theorem dX7_isStar_4 : decode fX7_isStar.2.1 4 = .ok (.invokestatic 78, 3) := by decide +kernel
theorem dX7_isStar_7 : decode fX7_isStar.2.1 7 = .ok (.ireturn, 1) := by decide +kernel
set_option maxRecDepth 100000 in
set_option maxHeartbeats 4000000 in
theorem ok_X7_isStar {X : Xb} {S : Sg} {mi : Mem} {v : Int32} : OkI 1 fX7_isStar X [.int v] S mi (b2i (0 ≤ v ∧ v ≤ 7)) mi := by
  refine Ok.go [some (.int v)] (by decide) (by simp [Value.category]) (Nat.le_of_ble_eq_true rfl) rfl ?_
  refine mw_iload_n dX7_isStar_0 rfl ?_
  refine mw_iconst (v := 0) dX7_isStar_1 (by decide) ?_
  refine mw_bipush (v := 7) dX7_isStar_2 (by decide) ?_
  refine mw_cSI (g := fX7_in) dX7_isStar_4 ml_X7_78 mfX7_in (ok_X7_in) rfl rfl (Nat.le_of_ble_eq_true rfl) ⟨by decide, by decide⟩ ⟨by decide, by decide⟩ ?_
  exact mw_bret dX7_isStar_7 rfl (by first | exact Or.inl rfl | exact Or.inr rfl | exact b2i_01) (by decide) (by decide) (⟨rfl, rfl, rfl⟩)
theorem dX7_isBearing_0 : decode fX7_isBearing.2.1 0 = .ok (.iload_n 0, 1) := by decide +kernel
theorem dX7_isBearing_1 : decode fX7_isBearing.2.1 1 = .ok (.iconst 0, 1) := by decide +kernel
theorem dX7_isBearing_2 : decode fX7_isBearing.2.1 2 = .ok (.bipush 23, 2) := by decide +kernel
theorem dX7_isBearing_4 : decode fX7_isBearing.2.1 4 = .ok (.invokestatic 78, 3) := by decide +kernel
theorem dX7_isBearing_7 : decode fX7_isBearing.2.1 7 = .ok (.ireturn, 1) := by decide +kernel
set_option maxRecDepth 100000 in
set_option maxHeartbeats 4000000 in
theorem ok_X7_isBearing {X : Xb} {S : Sg} {mi : Mem} {v : Int32} : OkI 1 fX7_isBearing X [.int v] S mi (b2i (0 ≤ v ∧ v ≤ 23)) mi := by
  refine Ok.go [some (.int v)] (by decide) (by simp [Value.category]) (Nat.le_of_ble_eq_true rfl) rfl ?_
  refine mw_iload_n dX7_isBearing_0 rfl ?_
  refine mw_iconst (v := 0) dX7_isBearing_1 (by decide) ?_
  refine mw_bipush (v := 23) dX7_isBearing_2 (by decide) ?_
  refine mw_cSI (g := fX7_in) dX7_isBearing_4 ml_X7_78 mfX7_in (ok_X7_in) rfl rfl (Nat.le_of_ble_eq_true rfl) ⟨by decide, by decide⟩ ⟨by decide, by decide⟩ ?_
  exact mw_bret dX7_isBearing_7 rfl (by first | exact Or.inl rfl | exact Or.inr rfl | exact b2i_01) (by decide) (by decide) (⟨rfl, rfl, rfl⟩)
theorem dX7_of_0 : decode fX7_of.2.1 0 = .ok (.aload_n 0, 1) := by decide +kernel
theorem dX7_of_1 : decode fX7_of.2.1 1 = .ok (.getfield 9, 3) := by decide +kernel
theorem dX7_of_4 : decode fX7_of.2.1 4 = .ok (.bipush 26, 2) := by decide +kernel
theorem dX7_of_6 : decode fX7_of.2.1 6 = .ok (.iconst 5, 1) := by decide +kernel
theorem dX7_of_7 : decode fX7_of.2.1 7 = .ok (.iload_n 1, 1) := by decide +kernel
theorem dX7_of_8 : decode fX7_of.2.1 8 = .ok (.imul, 1) := by decide +kernel
theorem dX7_of_9 : decode fX7_of.2.1 9 = .ok (.iadd, 1) := by decide +kernel
theorem dX7_of_10 : decode fX7_of.2.1 10 = .ok (.iload_n 2, 1) := by decide +kernel
theorem dX7_of_11 : decode fX7_of.2.1 11 = .ok (.iadd, 1) := by decide +kernel
theorem dX7_of_12 : decode fX7_of.2.1 12 = .ok (.iaload, 1) := by decide +kernel
theorem dX7_of_13 : decode fX7_of.2.1 13 = .ok (.ireturn, 1) := by decide +kernel
set_option maxRecDepth 100000 in
set_option maxHeartbeats 4000000 in
theorem ok_X7_of {X : Xb} {S : Sg} {mi : Mem} {o a w : Nat} (hM : MdA S o) (ha : a < 8) (hw : w < 5) : OkI 0 fX7_of X [rf X o, .int (nI a), .int (nI w)] S mi (mi (o + 1) (26 + 5 * a + w)) mi := by
  refine Ok.go [some (rf X o), some (.int (nI a)), some (.int (nI w))] (by decide) (by simp [Value.category]) (Nat.le_of_ble_eq_true rfl) rfl ?_
  obtain ⟨k_o, ⟨r_o_now, k_o_now⟩, ⟨r_o_image, k_o_image⟩, ⟨r_o_aside, k_o_aside⟩, ⟨r_o_seen, k_o_seen⟩, ⟨r_o_unlike, k_o_unlike⟩, ⟨r_o_tape, k_o_tape⟩, ⟨r_o_keys, k_o_keys⟩, ⟨r_o_keyAt, k_o_keyAt⟩, ⟨r_o_code, k_o_code⟩, ⟨r_o_waits, k_o_waits⟩, ⟨r_o_tested, k_o_tested⟩, ⟨r_o_stack, k_o_stack⟩, ⟨r_o_facts, k_o_facts⟩, ⟨r_o_sorts, k_o_sorts⟩, ⟨r_o_sizes, k_o_sizes⟩, ⟨r_o_cells, k_o_cells⟩, ⟨r_o_holds, k_o_holds⟩, ⟨r_o_holdsA, k_o_holdsA⟩, ⟨r_o_holdsB, k_o_holdsB⟩, ⟨r_o_heldCells, k_o_heldCells⟩, ⟨r_o_moved, k_o_moved⟩, ⟨r_o_tells, k_o_tells⟩⟩ := id hM
  refine mw_aload_n dX7_of_0 rfl ?_
  refine mw_getr dX7_of_1 fl_X7_9 rfl (by assumption) (by assumption) ?_
  refine mw_bipush (v := 26) dX7_of_4 (by decide) ?_
  refine mw_iconst (v := 5) dX7_of_6 (by decide) ?_
  refine mw_iload_n dX7_of_7 rfl ?_
  refine mw_imul dX7_of_8 ?_
  refine mw_iadd dX7_of_9 ?_
  refine mw_iload_n dX7_of_10 rfl ?_
  refine mw_iadd dX7_of_11 ?_
  refine mw_ialdK (k := 26 + 5 * a + w) dX7_of_12 (by assumption) (ixA a w) (by omega) (by decide) ?_
  exact mw_iret dX7_of_13 rfl (by decide) (by decide) (⟨rfl, rfl, rfl⟩)
theorem dX7_put_0 : decode fX7_put.2.1 0 = .ok (.aload_n 0, 1) := by decide +kernel
theorem dX7_put_1 : decode fX7_put.2.1 1 = .ok (.getfield 9, 3) := by decide +kernel
theorem dX7_put_4 : decode fX7_put.2.1 4 = .ok (.bipush 26, 2) := by decide +kernel
theorem dX7_put_6 : decode fX7_put.2.1 6 = .ok (.iconst 5, 1) := by decide +kernel
theorem dX7_put_7 : decode fX7_put.2.1 7 = .ok (.iload_n 1, 1) := by decide +kernel
theorem dX7_put_8 : decode fX7_put.2.1 8 = .ok (.imul, 1) := by decide +kernel
theorem dX7_put_9 : decode fX7_put.2.1 9 = .ok (.iadd, 1) := by decide +kernel
theorem dX7_put_10 : decode fX7_put.2.1 10 = .ok (.iload_n 2, 1) := by decide +kernel
theorem dX7_put_11 : decode fX7_put.2.1 11 = .ok (.iadd, 1) := by decide +kernel
theorem dX7_put_12 : decode fX7_put.2.1 12 = .ok (.iload_n 3, 1) := by decide +kernel
theorem dX7_put_13 : decode fX7_put.2.1 13 = .ok (.iastore, 1) := by decide +kernel
theorem dX7_put_14 : decode fX7_put.2.1 14 = .ok (.return_, 1) := by decide +kernel
set_option maxRecDepth 100000 in
set_option maxHeartbeats 4000000 in
theorem ok_X7_put {X : Xb} {S : Sg} {mi : Mem} {o a w : Nat} {v : Int32} (hM : MdA S o) (ha : a < 8) (hw : w < 5) : OkV 0 fX7_put X [rf X o, .int (nI a), .int (nI w), .int v] S mi (m_up mi (o + 1) (26 + 5 * a + w) v) := by
  refine Ok.go [some (rf X o), some (.int (nI a)), some (.int (nI w)), some (.int v)] (by decide) (by simp [Value.category]) (Nat.le_of_ble_eq_true rfl) rfl ?_
  obtain ⟨k_o, ⟨r_o_now, k_o_now⟩, ⟨r_o_image, k_o_image⟩, ⟨r_o_aside, k_o_aside⟩, ⟨r_o_seen, k_o_seen⟩, ⟨r_o_unlike, k_o_unlike⟩, ⟨r_o_tape, k_o_tape⟩, ⟨r_o_keys, k_o_keys⟩, ⟨r_o_keyAt, k_o_keyAt⟩, ⟨r_o_code, k_o_code⟩, ⟨r_o_waits, k_o_waits⟩, ⟨r_o_tested, k_o_tested⟩, ⟨r_o_stack, k_o_stack⟩, ⟨r_o_facts, k_o_facts⟩, ⟨r_o_sorts, k_o_sorts⟩, ⟨r_o_sizes, k_o_sizes⟩, ⟨r_o_cells, k_o_cells⟩, ⟨r_o_holds, k_o_holds⟩, ⟨r_o_holdsA, k_o_holdsA⟩, ⟨r_o_holdsB, k_o_holdsB⟩, ⟨r_o_heldCells, k_o_heldCells⟩, ⟨r_o_moved, k_o_moved⟩, ⟨r_o_tells, k_o_tells⟩⟩ := id hM
  refine mw_aload_n dX7_put_0 rfl ?_
  refine mw_getr dX7_put_1 fl_X7_9 rfl (by assumption) (by assumption) ?_
  refine mw_bipush (v := 26) dX7_put_4 (by decide) ?_
  refine mw_iconst (v := 5) dX7_put_6 (by decide) ?_
  refine mw_iload_n dX7_put_7 rfl ?_
  refine mw_imul dX7_put_8 ?_
  refine mw_iadd dX7_put_9 ?_
  refine mw_iload_n dX7_put_10 rfl ?_
  refine mw_iadd dX7_put_11 ?_
  refine mw_iload_n dX7_put_12 rfl ?_
  refine mw_iastK (k := 26 + 5 * a + w) dX7_put_13 (by assumption) (ixA a w) (by omega) (by decide) ?_
  exact mw_vret dX7_put_14 rfl (by decide) (by decide) (⟨rfl, rfl, rfl⟩)
theorem dX7_swaps_0 : decode fX7_swaps.2.1 0 = .ok (.aload_n 0, 1) := by decide +kernel
theorem dX7_swaps_1 : decode fX7_swaps.2.1 1 = .ok (.getfield 9, 3) := by decide +kernel
theorem dX7_swaps_4 : decode fX7_swaps.2.1 4 = .ok (.iload_n 1, 1) := by decide +kernel
theorem dX7_swaps_5 : decode fX7_swaps.2.1 5 = .ok (.iaload, 1) := by decide +kernel
theorem dX7_swaps_6 : decode fX7_swaps.2.1 6 = .ok (.istore_n 3, 1) := by decide +kernel
theorem dX7_swaps_7 : decode fX7_swaps.2.1 7 = .ok (.aload_n 0, 1) := by decide +kernel
theorem dX7_swaps_8 : decode fX7_swaps.2.1 8 = .ok (.getfield 9, 3) := by decide +kernel
theorem dX7_swaps_11 : decode fX7_swaps.2.1 11 = .ok (.iload_n 1, 1) := by decide +kernel
theorem dX7_swaps_12 : decode fX7_swaps.2.1 12 = .ok (.iload_n 2, 1) := by decide +kernel
theorem dX7_swaps_13 : decode fX7_swaps.2.1 13 = .ok (.iastore, 1) := by decide +kernel
theorem dX7_swaps_14 : decode fX7_swaps.2.1 14 = .ok (.iload_n 3, 1) := by decide +kernel
theorem dX7_swaps_15 : decode fX7_swaps.2.1 15 = .ok (.ireturn, 1) := by decide +kernel
set_option maxRecDepth 100000 in
set_option maxHeartbeats 4000000 in
theorem ok_X7_swaps {X : Xb} {S : Sg} {mi : Mem} {o s : Nat} {v : Int32} (hM : MdA S o) (hs : s < 1438) : OkI 0 fX7_swaps X [rf X o, .int (nI s), .int v] S mi (mi (o + 1) s) (m_up mi (o + 1) s v) := by
  refine Ok.go [some (rf X o), some (.int (nI s)), some (.int v), none] (by decide) (by simp [Value.category]) (Nat.le_of_ble_eq_true rfl) rfl ?_
  obtain ⟨k_o, ⟨r_o_now, k_o_now⟩, ⟨r_o_image, k_o_image⟩, ⟨r_o_aside, k_o_aside⟩, ⟨r_o_seen, k_o_seen⟩, ⟨r_o_unlike, k_o_unlike⟩, ⟨r_o_tape, k_o_tape⟩, ⟨r_o_keys, k_o_keys⟩, ⟨r_o_keyAt, k_o_keyAt⟩, ⟨r_o_code, k_o_code⟩, ⟨r_o_waits, k_o_waits⟩, ⟨r_o_tested, k_o_tested⟩, ⟨r_o_stack, k_o_stack⟩, ⟨r_o_facts, k_o_facts⟩, ⟨r_o_sorts, k_o_sorts⟩, ⟨r_o_sizes, k_o_sizes⟩, ⟨r_o_cells, k_o_cells⟩, ⟨r_o_holds, k_o_holds⟩, ⟨r_o_holdsA, k_o_holdsA⟩, ⟨r_o_holdsB, k_o_holdsB⟩, ⟨r_o_heldCells, k_o_heldCells⟩, ⟨r_o_moved, k_o_moved⟩, ⟨r_o_tells, k_o_tells⟩⟩ := id hM
  refine mw_aload_n dX7_swaps_0 rfl ?_
  refine mw_getr dX7_swaps_1 fl_X7_9 rfl (by assumption) (by assumption) ?_
  refine mw_iload_n dX7_swaps_4 rfl ?_
  refine mw_ialdK (k := s) dX7_swaps_5 (by assumption) (rfl) (hs) (by decide) ?_
  refine mw_istN 3 dX7_swaps_6 rfl (by decide) ?_
  refine mw_aload_n dX7_swaps_7 rfl ?_
  refine mw_getr dX7_swaps_8 fl_X7_9 rfl (by assumption) (by assumption) ?_
  refine mw_iload_n dX7_swaps_11 rfl ?_
  refine mw_iload_n dX7_swaps_12 rfl ?_
  refine mw_iastK (k := s) dX7_swaps_13 (by assumption) (rfl) (hs) (by decide) ?_
  refine mw_iload_n dX7_swaps_14 rfl ?_
  exact mw_iret dX7_swaps_15 rfl (by decide) (by decide) (⟨rfl, rfl, rfl⟩)
theorem dX7_off_0 : decode fX7_off.2.1 0 = .ok (.iload_n 0, 1) := by decide +kernel
theorem dX7_off_1 : decode fX7_off.2.1 1 = .ok (.ifCond .ge 8, 3) := by decide +kernel
theorem dX7_off_4 : decode fX7_off.2.1 4 = .ok (.iload_n 0, 1) := by decide +kernel
theorem dX7_off_5 : decode fX7_off.2.1 5 = .ok (.ineg, 1) := by decide +kernel
theorem dX7_off_6 : decode fX7_off.2.1 6 = .ok (.goto 4, 3) := by decide +kernel
theorem dX7_off_9 : decode fX7_off.2.1 9 = .ok (.iload_n 0, 1) := by decide +kernel
theorem dX7_off_10 : decode fX7_off.2.1 10 = .ok (.ireturn, 1) := by decide +kernel
set_option maxRecDepth 100000 in
set_option maxHeartbeats 4000000 in
theorem ok_X7_off {X : Xb} {S : Sg} {mi : Mem} {v : Int32} : OkI 0 fX7_off X [.int v] S mi (if 0 ≤ v then v else -v) mi := by
  refine Ok.go [some (.int v)] (by decide) (by simp [Value.category]) (Nat.le_of_ble_eq_true rfl) rfl ?_
  refine mw_iload_n dX7_off_0 rfl ?_
  refine mw_if_ge (tgt := 9) dX7_off_1 (by decide) (fun h1 => ?_) (fun h1 => ?_)
  · skip
    refine mw_iload_n dX7_off_9 rfl ?_
    exact mw_iret dX7_off_10 rfl (by decide) (by decide) (⟨by simp [*], rfl, rfl⟩)
  · skip
    refine mw_iload_n dX7_off_4 rfl ?_
    refine mw_ineg dX7_off_5 ?_
    refine mw_goto (tgt := 10) dX7_off_6 (by decide) ?_
    exact mw_iret dX7_off_10 rfl (by decide) (by decide) (⟨by simp [*], rfl, rfl⟩)
def mWide (hour kind width : Int32) : Int32 := if kind = 1 ∨ kind = 3 then width / 2 + 1 else if kind = 2 then width + 2 else if kind = 4 then clampI (2 * (width + 2)) 0 24 else if kind = 5 then (if jr hour 2 = 0 then width else 0) else width
theorem dX7_wideBy_0 : decode fX7_wideBy.2.1 0 = .ok (.iload_n 1, 1) := by decide +kernel
theorem dX7_wideBy_1 : decode fX7_wideBy.2.1 1 = .ok (.tableswitch 74 1 5 #[35, 41, 35, 45, 57], 35) := by decide +kernel
theorem dX7_wideBy_36 : decode fX7_wideBy.2.1 36 = .ok (.iload_n 2, 1) := by decide +kernel
theorem dX7_wideBy_37 : decode fX7_wideBy.2.1 37 = .ok (.iconst 2, 1) := by decide +kernel
theorem dX7_wideBy_38 : decode fX7_wideBy.2.1 38 = .ok (.idiv, 1) := by decide +kernel
theorem dX7_wideBy_39 : decode fX7_wideBy.2.1 39 = .ok (.iconst 1, 1) := by decide +kernel
theorem dX7_wideBy_40 : decode fX7_wideBy.2.1 40 = .ok (.iadd, 1) := by decide +kernel
theorem dX7_wideBy_41 : decode fX7_wideBy.2.1 41 = .ok (.ireturn, 1) := by decide +kernel
theorem dX7_wideBy_42 : decode fX7_wideBy.2.1 42 = .ok (.iload_n 2, 1) := by decide +kernel
theorem dX7_wideBy_43 : decode fX7_wideBy.2.1 43 = .ok (.iconst 2, 1) := by decide +kernel
theorem dX7_wideBy_44 : decode fX7_wideBy.2.1 44 = .ok (.iadd, 1) := by decide +kernel
theorem dX7_wideBy_45 : decode fX7_wideBy.2.1 45 = .ok (.ireturn, 1) := by decide +kernel
theorem dX7_wideBy_46 : decode fX7_wideBy.2.1 46 = .ok (.iconst 2, 1) := by decide +kernel
theorem dX7_wideBy_47 : decode fX7_wideBy.2.1 47 = .ok (.iload_n 2, 1) := by decide +kernel
theorem dX7_wideBy_48 : decode fX7_wideBy.2.1 48 = .ok (.iconst 2, 1) := by decide +kernel
theorem dX7_wideBy_49 : decode fX7_wideBy.2.1 49 = .ok (.iadd, 1) := by decide +kernel
theorem dX7_wideBy_50 : decode fX7_wideBy.2.1 50 = .ok (.imul, 1) := by decide +kernel
theorem dX7_wideBy_51 : decode fX7_wideBy.2.1 51 = .ok (.iconst 0, 1) := by decide +kernel
theorem dX7_wideBy_52 : decode fX7_wideBy.2.1 52 = .ok (.bipush 24, 2) := by decide +kernel
theorem dX7_wideBy_54 : decode fX7_wideBy.2.1 54 = .ok (.invokestatic 82, 3) := by decide +kernel
theorem dX7_wideBy_57 : decode fX7_wideBy.2.1 57 = .ok (.ireturn, 1) := by decide +kernel
theorem dX7_wideBy_58 : decode fX7_wideBy.2.1 58 = .ok (.aload_n 0, 1) := by decide +kernel
theorem dX7_wideBy_59 : decode fX7_wideBy.2.1 59 = .ok (.getfield 9, 3) := by decide +kernel
theorem dX7_wideBy_62 : decode fX7_wideBy.2.1 62 = .ok (.iconst 2, 1) := by decide +kernel
theorem dX7_wideBy_63 : decode fX7_wideBy.2.1 63 = .ok (.iaload, 1) := by decide +kernel
theorem dX7_wideBy_64 : decode fX7_wideBy.2.1 64 = .ok (.iconst 2, 1) := by decide +kernel
theorem dX7_wideBy_65 : decode fX7_wideBy.2.1 65 = .ok (.irem, 1) := by decide +kernel
theorem dX7_wideBy_66 : decode fX7_wideBy.2.1 66 = .ok (.ifCond .ne 7, 3) := by decide +kernel
theorem dX7_wideBy_69 : decode fX7_wideBy.2.1 69 = .ok (.iload_n 2, 1) := by decide +kernel
theorem dX7_wideBy_70 : decode fX7_wideBy.2.1 70 = .ok (.goto 4, 3) := by decide +kernel
theorem dX7_wideBy_73 : decode fX7_wideBy.2.1 73 = .ok (.iconst 0, 1) := by decide +kernel
theorem dX7_wideBy_74 : decode fX7_wideBy.2.1 74 = .ok (.ireturn, 1) := by decide +kernel
theorem dX7_wideBy_75 : decode fX7_wideBy.2.1 75 = .ok (.iload_n 2, 1) := by decide +kernel
theorem dX7_wideBy_76 : decode fX7_wideBy.2.1 76 = .ok (.ireturn, 1) := by decide +kernel
set_option maxRecDepth 100000 in
set_option maxHeartbeats 4000000 in
theorem ok_X7_wideBy {X : Xb} {S : Sg} {mi : Mem} {o : Nat} {k w : Int32} (hM : MdA S o) : OkI 1 fX7_wideBy X [rf X o, .int k, .int w] S mi (mWide (mi (o + 1) 2) k w) mi := by
  refine Ok.go [some (rf X o), some (.int k), some (.int w)] (by decide) (by simp [Value.category]) (Nat.le_of_ble_eq_true rfl) rfl ?_
  obtain ⟨k_o, ⟨r_o_now, k_o_now⟩, ⟨r_o_image, k_o_image⟩, ⟨r_o_aside, k_o_aside⟩, ⟨r_o_seen, k_o_seen⟩, ⟨r_o_unlike, k_o_unlike⟩, ⟨r_o_tape, k_o_tape⟩, ⟨r_o_keys, k_o_keys⟩, ⟨r_o_keyAt, k_o_keyAt⟩, ⟨r_o_code, k_o_code⟩, ⟨r_o_waits, k_o_waits⟩, ⟨r_o_tested, k_o_tested⟩, ⟨r_o_stack, k_o_stack⟩, ⟨r_o_facts, k_o_facts⟩, ⟨r_o_sorts, k_o_sorts⟩, ⟨r_o_sizes, k_o_sizes⟩, ⟨r_o_cells, k_o_cells⟩, ⟨r_o_holds, k_o_holds⟩, ⟨r_o_holdsA, k_o_holdsA⟩, ⟨r_o_holdsB, k_o_holdsB⟩, ⟨r_o_heldCells, k_o_heldCells⟩, ⟨r_o_moved, k_o_moved⟩, ⟨r_o_tells, k_o_tells⟩⟩ := id hM
  refine mw_iload_n dX7_wideBy_0 rfl ?_
  refine mw_ts1 dX7_wideBy_1 (by decide) 1 36 (by decide) (fun h1_1 => ?_) (fun h1_1 => ?_)
  · skip
    refine mw_iload_n dX7_wideBy_36 rfl ?_
    refine mw_iconst (v := 2) dX7_wideBy_37 (by decide) ?_
    refine mw_idiv dX7_wideBy_38 (by decide) ?_
    refine mw_iconst (v := 1) dX7_wideBy_39 (by decide) ?_
    refine mw_iadd dX7_wideBy_40 ?_
    exact mw_iret dX7_wideBy_41 rfl (by decide) (by decide) (⟨by simp [mWide, *], rfl, rfl⟩)
  refine mw_ts1 dX7_wideBy_1 (by decide) 2 42 (by decide) (fun h1_2 => ?_) (fun h1_2 => ?_)
  · skip
    refine mw_iload_n dX7_wideBy_42 rfl ?_
    refine mw_iconst (v := 2) dX7_wideBy_43 (by decide) ?_
    refine mw_iadd dX7_wideBy_44 ?_
    exact mw_iret dX7_wideBy_45 rfl (by decide) (by decide) (⟨by simp [mWide, *], rfl, rfl⟩)
  refine mw_ts1 dX7_wideBy_1 (by decide) 3 36 (by decide) (fun h1_3 => ?_) (fun h1_3 => ?_)
  · skip
    refine mw_iload_n dX7_wideBy_36 rfl ?_
    refine mw_iconst (v := 2) dX7_wideBy_37 (by decide) ?_
    refine mw_idiv dX7_wideBy_38 (by decide) ?_
    refine mw_iconst (v := 1) dX7_wideBy_39 (by decide) ?_
    refine mw_iadd dX7_wideBy_40 ?_
    exact mw_iret dX7_wideBy_41 rfl (by decide) (by decide) (⟨by simp [mWide, *], rfl, rfl⟩)
  refine mw_ts1 dX7_wideBy_1 (by decide) 4 46 (by decide) (fun h1_4 => ?_) (fun h1_4 => ?_)
  · skip
    refine mw_iconst (v := 2) dX7_wideBy_46 (by decide) ?_
    refine mw_iload_n dX7_wideBy_47 rfl ?_
    refine mw_iconst (v := 2) dX7_wideBy_48 (by decide) ?_
    refine mw_iadd dX7_wideBy_49 ?_
    refine mw_imul dX7_wideBy_50 ?_
    refine mw_iconst (v := 0) dX7_wideBy_51 (by decide) ?_
    refine mw_bipush (v := 24) dX7_wideBy_52 (by decide) ?_
    refine mw_cSI (g := fX7_within) dX7_wideBy_54 ml_X7_82 mfX7_within (ok_X7_within) rfl rfl (Nat.le_of_ble_eq_true rfl) ⟨by decide, by decide⟩ ⟨by decide, by decide⟩ ?_
    exact mw_iret dX7_wideBy_57 rfl (by decide) (by decide) (⟨by simp [mWide, *], rfl, rfl⟩)
  refine mw_ts1 dX7_wideBy_1 (by decide) 5 58 (by decide) (fun h1_5 => ?_) (fun h1_5 => ?_)
  · skip
    refine mw_aload_n dX7_wideBy_58 rfl ?_
    refine mw_getr dX7_wideBy_59 fl_X7_9 rfl (by assumption) (by assumption) ?_
    refine mw_iconst (v := 2) dX7_wideBy_62 (by decide) ?_
    refine mw_ialdK (k := 2) dX7_wideBy_63 (by assumption) (rfl) (by decide) (by decide) ?_
    refine mw_iconst (v := 2) dX7_wideBy_64 (by decide) ?_
    refine mw_irem dX7_wideBy_65 (by decide) ?_
    refine mw_if_ne (tgt := 73) dX7_wideBy_66 (by decide) (fun h66 => ?_) (fun h66 => ?_)
    · skip
      refine mw_iconst (v := 0) dX7_wideBy_73 (by decide) ?_
      exact mw_iret dX7_wideBy_74 rfl (by decide) (by decide) (⟨by simp [mWide, *], rfl, rfl⟩)
    · skip
      refine mw_iload_n dX7_wideBy_69 rfl ?_
      refine mw_goto (tgt := 74) dX7_wideBy_70 (by decide) ?_
      exact mw_iret dX7_wideBy_74 rfl (by decide) (by decide) (⟨by simp [mWide, *], rfl, rfl⟩)
  refine mw_ts0 dX7_wideBy_1 (by decide) 75 (by decide) (by have e0 := ne_toI (n := 1) (by decide) h1_1; have e1 := ne_toI (n := 2) (by decide) h1_2; have e2 := ne_toI (n := 3) (by decide) h1_3; have e3 := ne_toI (n := 4) (by decide) h1_4; have e4 := ne_toI (n := 5) (by decide) h1_5; omega) ?_
  refine mw_iload_n dX7_wideBy_75 rfl ?_
  exact mw_iret dX7_wideBy_76 rfl (by decide) (by decide) (⟨by simp [mWide, *], rfl, rfl⟩)
theorem dX7_wideOf_0 : decode fX7_wideOf.2.1 0 = .ok (.aload_n 0, 1) := by decide +kernel
theorem dX7_wideOf_1 : decode fX7_wideOf.2.1 1 = .ok (.aload_n 0, 1) := by decide +kernel
theorem dX7_wideOf_2 : decode fX7_wideOf.2.1 2 = .ok (.iload_n 1, 1) := by decide +kernel
theorem dX7_wideOf_3 : decode fX7_wideOf.2.1 3 = .ok (.iconst 0, 1) := by decide +kernel
theorem dX7_wideOf_4 : decode fX7_wideOf.2.1 4 = .ok (.invokevirtual 86, 3) := by decide +kernel
theorem dX7_wideOf_7 : decode fX7_wideOf.2.1 7 = .ok (.aload_n 0, 1) := by decide +kernel
theorem dX7_wideOf_8 : decode fX7_wideOf.2.1 8 = .ok (.iload_n 1, 1) := by decide +kernel
theorem dX7_wideOf_9 : decode fX7_wideOf.2.1 9 = .ok (.iconst 2, 1) := by decide +kernel
theorem dX7_wideOf_10 : decode fX7_wideOf.2.1 10 = .ok (.invokevirtual 86, 3) := by decide +kernel
theorem dX7_wideOf_13 : decode fX7_wideOf.2.1 13 = .ok (.invokevirtual 90, 3) := by decide +kernel
theorem dX7_wideOf_16 : decode fX7_wideOf.2.1 16 = .ok (.ireturn, 1) := by decide +kernel
set_option maxRecDepth 100000 in
set_option maxHeartbeats 4000000 in
theorem ok_X7_wideOf {X : Xb} {S : Sg} {mi : Mem} {o a : Nat} (hM : MdA S o) (ha : a < 8) : OkI 2 fX7_wideOf X [rf X o, .int (nI a)] S mi (mWide (mi (o + 1) 2) (mi (o + 1) (26 + 5 * a)) (mi (o + 1) (26 + 5 * a + 2))) mi := by
  refine Ok.go [some (rf X o), some (.int (nI a))] (by decide) (by simp [Value.category]) (Nat.le_of_ble_eq_true rfl) rfl ?_
  obtain ⟨k_o, ⟨r_o_now, k_o_now⟩, ⟨r_o_image, k_o_image⟩, ⟨r_o_aside, k_o_aside⟩, ⟨r_o_seen, k_o_seen⟩, ⟨r_o_unlike, k_o_unlike⟩, ⟨r_o_tape, k_o_tape⟩, ⟨r_o_keys, k_o_keys⟩, ⟨r_o_keyAt, k_o_keyAt⟩, ⟨r_o_code, k_o_code⟩, ⟨r_o_waits, k_o_waits⟩, ⟨r_o_tested, k_o_tested⟩, ⟨r_o_stack, k_o_stack⟩, ⟨r_o_facts, k_o_facts⟩, ⟨r_o_sorts, k_o_sorts⟩, ⟨r_o_sizes, k_o_sizes⟩, ⟨r_o_cells, k_o_cells⟩, ⟨r_o_holds, k_o_holds⟩, ⟨r_o_holdsA, k_o_holdsA⟩, ⟨r_o_holdsB, k_o_holdsB⟩, ⟨r_o_heldCells, k_o_heldCells⟩, ⟨r_o_moved, k_o_moved⟩, ⟨r_o_tells, k_o_tells⟩⟩ := id hM
  refine mw_aload_n dX7_wideOf_0 rfl ?_
  refine mw_aload_n dX7_wideOf_1 rfl ?_
  refine mw_iload_n dX7_wideOf_2 rfl ?_
  refine mw_iconst (v := 0) dX7_wideOf_3 (by decide) ?_
  refine mw_cVI (g := fX7_of) dX7_wideOf_4 ml_X7_86 mfX7_of (ok_X7_of hM (a := a) (w := 0) ha (by decide)) (by assumption) rfl rfl (Nat.le_of_ble_eq_true rfl) ⟨by decide, by decide⟩ ⟨by decide, by decide⟩ ?_
  refine mw_aload_n dX7_wideOf_7 rfl ?_
  refine mw_iload_n dX7_wideOf_8 rfl ?_
  refine mw_iconst (v := 2) dX7_wideOf_9 (by decide) ?_
  refine mw_cVI (g := fX7_of) dX7_wideOf_10 ml_X7_86 mfX7_of (ok_X7_of hM (a := a) (w := 2) ha (by decide)) (by assumption) rfl rfl (Nat.le_of_ble_eq_true rfl) ⟨by decide, by decide⟩ ⟨by decide, by decide⟩ ?_
  refine mw_cVI (g := fX7_wideBy) dX7_wideOf_13 ml_X7_90 mfX7_wideBy (ok_X7_wideBy hM) (by assumption) rfl rfl (Nat.le_of_ble_eq_true rfl) ⟨by decide, by decide⟩ ⟨by decide, by decide⟩ ?_
  exact mw_iret dX7_wideOf_16 rfl (by decide) (by decide) (⟨rfl, rfl, rfl⟩)
theorem dX7_worthOf_0 : decode fX7_worthOf.2.1 0 = .ok (.aload_n 0, 1) := by decide +kernel
theorem dX7_worthOf_1 : decode fX7_worthOf.2.1 1 = .ok (.iload_n 1, 1) := by decide +kernel
theorem dX7_worthOf_2 : decode fX7_worthOf.2.1 2 = .ok (.iconst 2, 1) := by decide +kernel
theorem dX7_worthOf_3 : decode fX7_worthOf.2.1 3 = .ok (.invokevirtual 86, 3) := by decide +kernel
theorem dX7_worthOf_6 : decode fX7_worthOf.2.1 6 = .ok (.ireturn, 1) := by decide +kernel
set_option maxRecDepth 100000 in
set_option maxHeartbeats 4000000 in
theorem ok_X7_worthOf {X : Xb} {S : Sg} {mi : Mem} {o a : Nat} (hM : MdA S o) (ha : a < 8) : OkI 1 fX7_worthOf X [rf X o, .int (nI a)] S mi (mi (o + 1) (26 + 5 * a + 2)) mi := by
  refine Ok.go [some (rf X o), some (.int (nI a))] (by decide) (by simp [Value.category]) (Nat.le_of_ble_eq_true rfl) rfl ?_
  obtain ⟨k_o, ⟨r_o_now, k_o_now⟩, ⟨r_o_image, k_o_image⟩, ⟨r_o_aside, k_o_aside⟩, ⟨r_o_seen, k_o_seen⟩, ⟨r_o_unlike, k_o_unlike⟩, ⟨r_o_tape, k_o_tape⟩, ⟨r_o_keys, k_o_keys⟩, ⟨r_o_keyAt, k_o_keyAt⟩, ⟨r_o_code, k_o_code⟩, ⟨r_o_waits, k_o_waits⟩, ⟨r_o_tested, k_o_tested⟩, ⟨r_o_stack, k_o_stack⟩, ⟨r_o_facts, k_o_facts⟩, ⟨r_o_sorts, k_o_sorts⟩, ⟨r_o_sizes, k_o_sizes⟩, ⟨r_o_cells, k_o_cells⟩, ⟨r_o_holds, k_o_holds⟩, ⟨r_o_holdsA, k_o_holdsA⟩, ⟨r_o_holdsB, k_o_holdsB⟩, ⟨r_o_heldCells, k_o_heldCells⟩, ⟨r_o_moved, k_o_moved⟩, ⟨r_o_tells, k_o_tells⟩⟩ := id hM
  refine mw_aload_n dX7_worthOf_0 rfl ?_
  refine mw_iload_n dX7_worthOf_1 rfl ?_
  refine mw_iconst (v := 2) dX7_worthOf_2 (by decide) ?_
  refine mw_cVI (g := fX7_of) dX7_worthOf_3 ml_X7_86 mfX7_of (ok_X7_of hM (a := a) (w := 2) ha (by decide)) (by assumption) rfl rfl (Nat.le_of_ble_eq_true rfl) ⟨by decide, by decide⟩ ⟨by decide, by decide⟩ ?_
  exact mw_iret dX7_worthOf_6 rfl (by decide) (by decide) (⟨rfl, rfl, rfl⟩)
theorem dX7_standsAt_0 : decode fX7_standsAt.2.1 0 = .ok (.aload_n 0, 1) := by decide +kernel
theorem dX7_standsAt_1 : decode fX7_standsAt.2.1 1 = .ok (.getfield 9, 3) := by decide +kernel
theorem dX7_standsAt_4 : decode fX7_standsAt.2.1 4 = .ok (.bipush 10, 2) := by decide +kernel
theorem dX7_standsAt_6 : decode fX7_standsAt.2.1 6 = .ok (.iload_n 1, 1) := by decide +kernel
theorem dX7_standsAt_7 : decode fX7_standsAt.2.1 7 = .ok (.iadd, 1) := by decide +kernel
theorem dX7_standsAt_8 : decode fX7_standsAt.2.1 8 = .ok (.iaload, 1) := by decide +kernel
theorem dX7_standsAt_9 : decode fX7_standsAt.2.1 9 = .ok (.aload_n 0, 1) := by decide +kernel
theorem dX7_standsAt_10 : decode fX7_standsAt.2.1 10 = .ok (.getfield 9, 3) := by decide +kernel
theorem dX7_standsAt_13 : decode fX7_standsAt.2.1 13 = .ok (.iconst 2, 1) := by decide +kernel
theorem dX7_standsAt_14 : decode fX7_standsAt.2.1 14 = .ok (.iaload, 1) := by decide +kernel
theorem dX7_standsAt_15 : decode fX7_standsAt.2.1 15 = .ok (.iadd, 1) := by decide +kernel
theorem dX7_standsAt_16 : decode fX7_standsAt.2.1 16 = .ok (.bipush 24, 2) := by decide +kernel
theorem dX7_standsAt_18 : decode fX7_standsAt.2.1 18 = .ok (.irem, 1) := by decide +kernel
theorem dX7_standsAt_19 : decode fX7_standsAt.2.1 19 = .ok (.ireturn, 1) := by decide +kernel
set_option maxRecDepth 100000 in
set_option maxHeartbeats 4000000 in
theorem ok_X7_standsAt {X : Xb} {S : Sg} {mi : Mem} {o k : Nat} (hM : MdA S o) (hk : k < 8) : OkI 0 fX7_standsAt X [rf X o, .int (nI k)] S mi (jr (mi (o + 1) (10 + k) + mi (o + 1) 2) 24) mi := by
  refine Ok.go [some (rf X o), some (.int (nI k))] (by decide) (by simp [Value.category]) (Nat.le_of_ble_eq_true rfl) rfl ?_
  obtain ⟨k_o, ⟨r_o_now, k_o_now⟩, ⟨r_o_image, k_o_image⟩, ⟨r_o_aside, k_o_aside⟩, ⟨r_o_seen, k_o_seen⟩, ⟨r_o_unlike, k_o_unlike⟩, ⟨r_o_tape, k_o_tape⟩, ⟨r_o_keys, k_o_keys⟩, ⟨r_o_keyAt, k_o_keyAt⟩, ⟨r_o_code, k_o_code⟩, ⟨r_o_waits, k_o_waits⟩, ⟨r_o_tested, k_o_tested⟩, ⟨r_o_stack, k_o_stack⟩, ⟨r_o_facts, k_o_facts⟩, ⟨r_o_sorts, k_o_sorts⟩, ⟨r_o_sizes, k_o_sizes⟩, ⟨r_o_cells, k_o_cells⟩, ⟨r_o_holds, k_o_holds⟩, ⟨r_o_holdsA, k_o_holdsA⟩, ⟨r_o_holdsB, k_o_holdsB⟩, ⟨r_o_heldCells, k_o_heldCells⟩, ⟨r_o_moved, k_o_moved⟩, ⟨r_o_tells, k_o_tells⟩⟩ := id hM
  refine mw_aload_n dX7_standsAt_0 rfl ?_
  refine mw_getr dX7_standsAt_1 fl_X7_9 rfl (by assumption) (by assumption) ?_
  refine mw_bipush (v := 10) dX7_standsAt_4 (by decide) ?_
  refine mw_iload_n dX7_standsAt_6 rfl ?_
  refine mw_iadd dX7_standsAt_7 ?_
  refine mw_ialdK (k := 10 + k) dX7_standsAt_8 (by assumption) (ix10 k) (by omega) (by decide) ?_
  refine mw_aload_n dX7_standsAt_9 rfl ?_
  refine mw_getr dX7_standsAt_10 fl_X7_9 rfl (by assumption) (by assumption) ?_
  refine mw_iconst (v := 2) dX7_standsAt_13 (by decide) ?_
  refine mw_ialdK (k := 2) dX7_standsAt_14 (by assumption) (rfl) (by decide) (by decide) ?_
  refine mw_iadd dX7_standsAt_15 ?_
  refine mw_bipush (v := 24) dX7_standsAt_16 (by decide) ?_
  refine mw_irem dX7_standsAt_18 (by decide) ?_
  exact mw_iret dX7_standsAt_19 rfl (by decide) (by decide) (⟨rfl, rfl, rfl⟩)
def mHidB (chim kind b : Int32) : Bool := decide ((chim >>> (b &&& 31)) &&& 1 = 1) && !decide (kind = 4) && (!decide (kind = 2) || decide (jr b 2 = 1))
theorem dX7_isHidden_0 : decode fX7_isHidden.2.1 0 = .ok (.aload_n 0, 1) := by decide +kernel
theorem dX7_isHidden_1 : decode fX7_isHidden.2.1 1 = .ok (.getfield 9, 3) := by decide +kernel
theorem dX7_isHidden_4 : decode fX7_isHidden.2.1 4 = .ok (.bipush 9, 2) := by decide +kernel
theorem dX7_isHidden_6 : decode fX7_isHidden.2.1 6 = .ok (.iaload, 1) := by decide +kernel
theorem dX7_isHidden_7 : decode fX7_isHidden.2.1 7 = .ok (.iload_n 2, 1) := by decide +kernel
theorem dX7_isHidden_8 : decode fX7_isHidden.2.1 8 = .ok (.ishr, 1) := by decide +kernel
theorem dX7_isHidden_9 : decode fX7_isHidden.2.1 9 = .ok (.iconst 1, 1) := by decide +kernel
theorem dX7_isHidden_10 : decode fX7_isHidden.2.1 10 = .ok (.iand, 1) := by decide +kernel
theorem dX7_isHidden_11 : decode fX7_isHidden.2.1 11 = .ok (.iconst 1, 1) := by decide +kernel
theorem dX7_isHidden_12 : decode fX7_isHidden.2.1 12 = .ok (.if_icmp .ne 7, 3) := by decide +kernel
theorem dX7_isHidden_15 : decode fX7_isHidden.2.1 15 = .ok (.iconst 1, 1) := by decide +kernel
theorem dX7_isHidden_16 : decode fX7_isHidden.2.1 16 = .ok (.goto 4, 3) := by decide +kernel
theorem dX7_isHidden_19 : decode fX7_isHidden.2.1 19 = .ok (.iconst 0, 1) := by decide +kernel
theorem dX7_isHidden_20 : decode fX7_isHidden.2.1 20 = .ok (.istore_n 3, 1) := by decide +kernel
theorem dX7_isHidden_21 : decode fX7_isHidden.2.1 21 = .ok (.iload_n 3, 1) := by decide +kernel
theorem dX7_isHidden_22 : decode fX7_isHidden.2.1 22 = .ok (.ifCond .eq 34, 3) := by decide +kernel
theorem dX7_isHidden_25 : decode fX7_isHidden.2.1 25 = .ok (.aload_n 0, 1) := by decide +kernel
theorem dX7_isHidden_26 : decode fX7_isHidden.2.1 26 = .ok (.iload_n 1, 1) := by decide +kernel
theorem dX7_isHidden_27 : decode fX7_isHidden.2.1 27 = .ok (.iconst 0, 1) := by decide +kernel
theorem dX7_isHidden_28 : decode fX7_isHidden.2.1 28 = .ok (.invokevirtual 86, 3) := by decide +kernel
theorem dX7_isHidden_31 : decode fX7_isHidden.2.1 31 = .ok (.iconst 4, 1) := by decide +kernel
theorem dX7_isHidden_32 : decode fX7_isHidden.2.1 32 = .ok (.if_icmp .eq 24, 3) := by decide +kernel
theorem dX7_isHidden_35 : decode fX7_isHidden.2.1 35 = .ok (.aload_n 0, 1) := by decide +kernel
theorem dX7_isHidden_36 : decode fX7_isHidden.2.1 36 = .ok (.iload_n 1, 1) := by decide +kernel
theorem dX7_isHidden_37 : decode fX7_isHidden.2.1 37 = .ok (.iconst 0, 1) := by decide +kernel
theorem dX7_isHidden_38 : decode fX7_isHidden.2.1 38 = .ok (.invokevirtual 86, 3) := by decide +kernel
theorem dX7_isHidden_41 : decode fX7_isHidden.2.1 41 = .ok (.iconst 2, 1) := by decide +kernel
theorem dX7_isHidden_42 : decode fX7_isHidden.2.1 42 = .ok (.if_icmp .ne 10, 3) := by decide +kernel
theorem dX7_isHidden_45 : decode fX7_isHidden.2.1 45 = .ok (.iload_n 2, 1) := by decide +kernel
theorem dX7_isHidden_46 : decode fX7_isHidden.2.1 46 = .ok (.iconst 2, 1) := by decide +kernel
theorem dX7_isHidden_47 : decode fX7_isHidden.2.1 47 = .ok (.irem, 1) := by decide +kernel
theorem dX7_isHidden_48 : decode fX7_isHidden.2.1 48 = .ok (.iconst 1, 1) := by decide +kernel
theorem dX7_isHidden_49 : decode fX7_isHidden.2.1 49 = .ok (.if_icmp .ne 7, 3) := by decide +kernel
theorem dX7_isHidden_52 : decode fX7_isHidden.2.1 52 = .ok (.iconst 1, 1) := by decide +kernel
theorem dX7_isHidden_53 : decode fX7_isHidden.2.1 53 = .ok (.goto 4, 3) := by decide +kernel
theorem dX7_isHidden_56 : decode fX7_isHidden.2.1 56 = .ok (.iconst 0, 1) := by decide +kernel
theorem dX7_isHidden_57 : decode fX7_isHidden.2.1 57 = .ok (.ireturn, 1) := by decide +kernel
set_option maxRecDepth 100000 in
set_option maxHeartbeats 4000000 in
theorem ok_X7_isHidden {X : Xb} {S : Sg} {mi : Mem} {o a : Nat} {b : Int32} (hM : MdA S o) (ha : a < 8) : OkI 1 fX7_isHidden X [rf X o, .int (nI a), .int b] S mi (b2i (mHidB (mi (o + 1) 9) (mi (o + 1) (26 + 5 * a)) b = true)) mi := by
  refine Ok.go [some (rf X o), some (.int (nI a)), some (.int b), none] (by decide) (by simp [Value.category]) (Nat.le_of_ble_eq_true rfl) rfl ?_
  obtain ⟨k_o, ⟨r_o_now, k_o_now⟩, ⟨r_o_image, k_o_image⟩, ⟨r_o_aside, k_o_aside⟩, ⟨r_o_seen, k_o_seen⟩, ⟨r_o_unlike, k_o_unlike⟩, ⟨r_o_tape, k_o_tape⟩, ⟨r_o_keys, k_o_keys⟩, ⟨r_o_keyAt, k_o_keyAt⟩, ⟨r_o_code, k_o_code⟩, ⟨r_o_waits, k_o_waits⟩, ⟨r_o_tested, k_o_tested⟩, ⟨r_o_stack, k_o_stack⟩, ⟨r_o_facts, k_o_facts⟩, ⟨r_o_sorts, k_o_sorts⟩, ⟨r_o_sizes, k_o_sizes⟩, ⟨r_o_cells, k_o_cells⟩, ⟨r_o_holds, k_o_holds⟩, ⟨r_o_holdsA, k_o_holdsA⟩, ⟨r_o_holdsB, k_o_holdsB⟩, ⟨r_o_heldCells, k_o_heldCells⟩, ⟨r_o_moved, k_o_moved⟩, ⟨r_o_tells, k_o_tells⟩⟩ := id hM
  refine mw_aload_n dX7_isHidden_0 rfl ?_
  refine mw_getr dX7_isHidden_1 fl_X7_9 rfl (by assumption) (by assumption) ?_
  refine mw_bipush (v := 9) dX7_isHidden_4 (by decide) ?_
  refine mw_ialdK (k := 9) dX7_isHidden_6 (by assumption) (rfl) (by decide) (by decide) ?_
  refine mw_iload_n dX7_isHidden_7 rfl ?_
  refine mw_ishr dX7_isHidden_8 ?_
  refine mw_iconst (v := 1) dX7_isHidden_9 (by decide) ?_
  refine mw_iand dX7_isHidden_10 ?_
  refine mw_iconst (v := 1) dX7_isHidden_11 (by decide) ?_
  refine mw_icmp_ne (tgt := 19) dX7_isHidden_12 (by decide) (fun h12 => ?_) (fun h12 => ?_)
  · skip
    refine mw_iconst (v := 0) dX7_isHidden_19 (by decide) ?_
    refine mw_istN 3 dX7_isHidden_20 rfl (by decide) ?_
    refine mw_iload_n dX7_isHidden_21 rfl ?_
    refine mw_if_eq (tgt := 56) dX7_isHidden_22 (by decide) (fun h22 => ?_) (fun h22 => ?_)
    · skip
      refine mw_iconst (v := 0) dX7_isHidden_56 (by decide) ?_
      exact mw_bret dX7_isHidden_57 rfl (by first | exact Or.inl rfl | exact Or.inr rfl | exact b2i_01) (by decide) (by decide) (⟨by simp_all [b2i, mHidB], rfl, rfl⟩)
    · skip
      refine mw_aload_n dX7_isHidden_25 rfl ?_
      refine mw_iload_n dX7_isHidden_26 rfl ?_
      refine mw_iconst (v := 0) dX7_isHidden_27 (by decide) ?_
      refine mw_cVI (g := fX7_of) dX7_isHidden_28 ml_X7_86 mfX7_of (ok_X7_of hM (a := a) (w := 0) ha (by decide)) (by assumption) rfl rfl (Nat.le_of_ble_eq_true rfl) ⟨by decide, by decide⟩ ⟨by decide, by decide⟩ ?_
      refine mw_iconst (v := 4) dX7_isHidden_31 (by decide) ?_
      refine mw_icmp_eq (tgt := 56) dX7_isHidden_32 (by decide) (fun h32 => ?_) (fun h32 => ?_)
      · skip
        refine mw_iconst (v := 0) dX7_isHidden_56 (by decide) ?_
        exact mw_bret dX7_isHidden_57 rfl (by first | exact Or.inl rfl | exact Or.inr rfl | exact b2i_01) (by decide) (by decide) (⟨by simp_all [b2i, mHidB], rfl, rfl⟩)
      · skip
        refine mw_aload_n dX7_isHidden_35 rfl ?_
        refine mw_iload_n dX7_isHidden_36 rfl ?_
        refine mw_iconst (v := 0) dX7_isHidden_37 (by decide) ?_
        refine mw_cVI (g := fX7_of) dX7_isHidden_38 ml_X7_86 mfX7_of (ok_X7_of hM (a := a) (w := 0) ha (by decide)) (by assumption) rfl rfl (Nat.le_of_ble_eq_true rfl) ⟨by decide, by decide⟩ ⟨by decide, by decide⟩ ?_
        refine mw_iconst (v := 2) dX7_isHidden_41 (by decide) ?_
        refine mw_icmp_ne (tgt := 52) dX7_isHidden_42 (by decide) (fun h42 => ?_) (fun h42 => ?_)
        · skip
          refine mw_iconst (v := 1) dX7_isHidden_52 (by decide) ?_
          refine mw_goto (tgt := 57) dX7_isHidden_53 (by decide) ?_
          exact mw_bret dX7_isHidden_57 rfl (by first | exact Or.inl rfl | exact Or.inr rfl | exact b2i_01) (by decide) (by decide) (⟨by simp_all [b2i, mHidB], rfl, rfl⟩)
        · skip
          refine mw_iload_n dX7_isHidden_45 rfl ?_
          refine mw_iconst (v := 2) dX7_isHidden_46 (by decide) ?_
          refine mw_irem dX7_isHidden_47 (by decide) ?_
          refine mw_iconst (v := 1) dX7_isHidden_48 (by decide) ?_
          refine mw_icmp_ne (tgt := 56) dX7_isHidden_49 (by decide) (fun h49 => ?_) (fun h49 => ?_)
          · skip
            refine mw_iconst (v := 0) dX7_isHidden_56 (by decide) ?_
            exact mw_bret dX7_isHidden_57 rfl (by first | exact Or.inl rfl | exact Or.inr rfl | exact b2i_01) (by decide) (by decide) (⟨by simp_all [b2i, mHidB], rfl, rfl⟩)
          · skip
            refine mw_iconst (v := 1) dX7_isHidden_52 (by decide) ?_
            refine mw_goto (tgt := 57) dX7_isHidden_53 (by decide) ?_
            exact mw_bret dX7_isHidden_57 rfl (by first | exact Or.inl rfl | exact Or.inr rfl | exact b2i_01) (by decide) (by decide) (⟨by simp_all [b2i, mHidB], rfl, rfl⟩)
  · skip
    refine mw_iconst (v := 1) dX7_isHidden_15 (by decide) ?_
    refine mw_goto (tgt := 20) dX7_isHidden_16 (by decide) ?_
    refine mw_istN 3 dX7_isHidden_20 rfl (by decide) ?_
    refine mw_iload_n dX7_isHidden_21 rfl ?_
    refine mw_if_eq (tgt := 56) dX7_isHidden_22 (by decide) (fun h22 => ?_) (fun h22 => ?_)
    · skip
      refine mw_iconst (v := 0) dX7_isHidden_56 (by decide) ?_
      exact mw_bret dX7_isHidden_57 rfl (by first | exact Or.inl rfl | exact Or.inr rfl | exact b2i_01) (by decide) (by decide) (⟨by simp_all [b2i, mHidB], rfl, rfl⟩)
    · skip
      refine mw_aload_n dX7_isHidden_25 rfl ?_
      refine mw_iload_n dX7_isHidden_26 rfl ?_
      refine mw_iconst (v := 0) dX7_isHidden_27 (by decide) ?_
      refine mw_cVI (g := fX7_of) dX7_isHidden_28 ml_X7_86 mfX7_of (ok_X7_of hM (a := a) (w := 0) ha (by decide)) (by assumption) rfl rfl (Nat.le_of_ble_eq_true rfl) ⟨by decide, by decide⟩ ⟨by decide, by decide⟩ ?_
      refine mw_iconst (v := 4) dX7_isHidden_31 (by decide) ?_
      refine mw_icmp_eq (tgt := 56) dX7_isHidden_32 (by decide) (fun h32 => ?_) (fun h32 => ?_)
      · skip
        refine mw_iconst (v := 0) dX7_isHidden_56 (by decide) ?_
        exact mw_bret dX7_isHidden_57 rfl (by first | exact Or.inl rfl | exact Or.inr rfl | exact b2i_01) (by decide) (by decide) (⟨by simp_all [b2i, mHidB], rfl, rfl⟩)
      · skip
        refine mw_aload_n dX7_isHidden_35 rfl ?_
        refine mw_iload_n dX7_isHidden_36 rfl ?_
        refine mw_iconst (v := 0) dX7_isHidden_37 (by decide) ?_
        refine mw_cVI (g := fX7_of) dX7_isHidden_38 ml_X7_86 mfX7_of (ok_X7_of hM (a := a) (w := 0) ha (by decide)) (by assumption) rfl rfl (Nat.le_of_ble_eq_true rfl) ⟨by decide, by decide⟩ ⟨by decide, by decide⟩ ?_
        refine mw_iconst (v := 2) dX7_isHidden_41 (by decide) ?_
        refine mw_icmp_ne (tgt := 52) dX7_isHidden_42 (by decide) (fun h42 => ?_) (fun h42 => ?_)
        · skip
          refine mw_iconst (v := 1) dX7_isHidden_52 (by decide) ?_
          refine mw_goto (tgt := 57) dX7_isHidden_53 (by decide) ?_
          exact mw_bret dX7_isHidden_57 rfl (by first | exact Or.inl rfl | exact Or.inr rfl | exact b2i_01) (by decide) (by decide) (⟨by simp_all [b2i, mHidB], rfl, rfl⟩)
        · skip
          refine mw_iload_n dX7_isHidden_45 rfl ?_
          refine mw_iconst (v := 2) dX7_isHidden_46 (by decide) ?_
          refine mw_irem dX7_isHidden_47 (by decide) ?_
          refine mw_iconst (v := 1) dX7_isHidden_48 (by decide) ?_
          refine mw_icmp_ne (tgt := 56) dX7_isHidden_49 (by decide) (fun h49 => ?_) (fun h49 => ?_)
          · skip
            refine mw_iconst (v := 0) dX7_isHidden_56 (by decide) ?_
            exact mw_bret dX7_isHidden_57 rfl (by first | exact Or.inl rfl | exact Or.inr rfl | exact b2i_01) (by decide) (by decide) (⟨by simp_all [b2i, mHidB], rfl, rfl⟩)
          · skip
            refine mw_iconst (v := 1) dX7_isHidden_52 (by decide) ?_
            refine mw_goto (tgt := 57) dX7_isHidden_53 (by decide) ?_
            exact mw_bret dX7_isHidden_57 rfl (by first | exact Or.inl rfl | exact Or.inr rfl | exact b2i_01) (by decide) (by decide) (⟨by simp_all [b2i, mHidB], rfl, rfl⟩)
def mSeeB (home : Nat → Int32) (hour chim kind faces width : Int32) (k : Nat) : Bool := decide (jr (jr (home k + hour) 24 - faces + 24) 24 < mWide hour kind width) && !(mHidB chim kind (jr (home k + hour) 24))
def mSees (home : Nat → Int32) (hour chim kind faces width : Int32) : Int32 := seesTo (mSeeB home hour chim kind faces width) 8
/-- what attic a of a row sees -/
abbrev rSees (A : Nat → Int32) (a : Nat) : Int32 := mSees (fun k => A (10 + k)) (A 2) (A 9) (A (26 + 5 * a)) (A (26 + 5 * a + 1)) (A (26 + 5 * a + 2))
theorem dX7_sees_0 : decode fX7_sees.2.1 0 = .ok (.iconst 0, 1) := by decide +kernel
theorem dX7_sees_1 : decode fX7_sees.2.1 1 = .ok (.istore_n 2, 1) := by decide +kernel
theorem dX7_sees_2 : decode fX7_sees.2.1 2 = .ok (.aload_n 0, 1) := by decide +kernel
theorem dX7_sees_3 : decode fX7_sees.2.1 3 = .ok (.iload_n 1, 1) := by decide +kernel
theorem dX7_sees_4 : decode fX7_sees.2.1 4 = .ok (.invokevirtual 93, 3) := by decide +kernel
theorem dX7_sees_7 : decode fX7_sees.2.1 7 = .ok (.istore_n 3, 1) := by decide +kernel
theorem dX7_sees_8 : decode fX7_sees.2.1 8 = .ok (.iconst 0, 1) := by decide +kernel
theorem dX7_sees_9 : decode fX7_sees.2.1 9 = .ok (.istore 4, 2) := by decide +kernel
theorem dX7_sees_11 : decode fX7_sees.2.1 11 = .ok (.iload 4, 2) := by decide +kernel
theorem dX7_sees_13 : decode fX7_sees.2.1 13 = .ok (.bipush 8, 2) := by decide +kernel
theorem dX7_sees_15 : decode fX7_sees.2.1 15 = .ok (.if_icmp .ge 61, 3) := by decide +kernel
theorem dX7_sees_18 : decode fX7_sees.2.1 18 = .ok (.aload_n 0, 1) := by decide +kernel
theorem dX7_sees_19 : decode fX7_sees.2.1 19 = .ok (.iload 4, 2) := by decide +kernel
theorem dX7_sees_21 : decode fX7_sees.2.1 21 = .ok (.invokevirtual 97, 3) := by decide +kernel
theorem dX7_sees_24 : decode fX7_sees.2.1 24 = .ok (.istore 5, 2) := by decide +kernel
theorem dX7_sees_26 : decode fX7_sees.2.1 26 = .ok (.iload 5, 2) := by decide +kernel
theorem dX7_sees_28 : decode fX7_sees.2.1 28 = .ok (.aload_n 0, 1) := by decide +kernel
theorem dX7_sees_29 : decode fX7_sees.2.1 29 = .ok (.iload_n 1, 1) := by decide +kernel
theorem dX7_sees_30 : decode fX7_sees.2.1 30 = .ok (.iconst 1, 1) := by decide +kernel
theorem dX7_sees_31 : decode fX7_sees.2.1 31 = .ok (.invokevirtual 86, 3) := by decide +kernel
theorem dX7_sees_34 : decode fX7_sees.2.1 34 = .ok (.isub, 1) := by decide +kernel
theorem dX7_sees_35 : decode fX7_sees.2.1 35 = .ok (.bipush 24, 2) := by decide +kernel
theorem dX7_sees_37 : decode fX7_sees.2.1 37 = .ok (.iadd, 1) := by decide +kernel
theorem dX7_sees_38 : decode fX7_sees.2.1 38 = .ok (.bipush 24, 2) := by decide +kernel
theorem dX7_sees_40 : decode fX7_sees.2.1 40 = .ok (.irem, 1) := by decide +kernel
theorem dX7_sees_41 : decode fX7_sees.2.1 41 = .ok (.istore 6, 2) := by decide +kernel
theorem dX7_sees_43 : decode fX7_sees.2.1 43 = .ok (.iload_n 2, 1) := by decide +kernel
theorem dX7_sees_44 : decode fX7_sees.2.1 44 = .ok (.iload 6, 2) := by decide +kernel
theorem dX7_sees_46 : decode fX7_sees.2.1 46 = .ok (.iload_n 3, 1) := by decide +kernel
theorem dX7_sees_47 : decode fX7_sees.2.1 47 = .ok (.if_icmp .ge 20, 3) := by decide +kernel
theorem dX7_sees_50 : decode fX7_sees.2.1 50 = .ok (.aload_n 0, 1) := by decide +kernel
theorem dX7_sees_51 : decode fX7_sees.2.1 51 = .ok (.iload_n 1, 1) := by decide +kernel
theorem dX7_sees_52 : decode fX7_sees.2.1 52 = .ok (.iload 5, 2) := by decide +kernel
theorem dX7_sees_54 : decode fX7_sees.2.1 54 = .ok (.invokevirtual 100, 3) := by decide +kernel
theorem dX7_sees_57 : decode fX7_sees.2.1 57 = .ok (.ifCond .ne 10, 3) := by decide +kernel
theorem dX7_sees_60 : decode fX7_sees.2.1 60 = .ok (.iconst 1, 1) := by decide +kernel
theorem dX7_sees_61 : decode fX7_sees.2.1 61 = .ok (.iload 4, 2) := by decide +kernel
theorem dX7_sees_63 : decode fX7_sees.2.1 63 = .ok (.ishl, 1) := by decide +kernel
theorem dX7_sees_64 : decode fX7_sees.2.1 64 = .ok (.goto 4, 3) := by decide +kernel
theorem dX7_sees_67 : decode fX7_sees.2.1 67 = .ok (.iconst 0, 1) := by decide +kernel
theorem dX7_sees_68 : decode fX7_sees.2.1 68 = .ok (.ior, 1) := by decide +kernel
theorem dX7_sees_69 : decode fX7_sees.2.1 69 = .ok (.istore_n 2, 1) := by decide +kernel
theorem dX7_sees_70 : decode fX7_sees.2.1 70 = .ok (.iinc 4 1, 3) := by decide +kernel
theorem dX7_sees_73 : decode fX7_sees.2.1 73 = .ok (.goto (-62), 3) := by decide +kernel
theorem dX7_sees_76 : decode fX7_sees.2.1 76 = .ok (.iload_n 2, 1) := by decide +kernel
theorem dX7_sees_77 : decode fX7_sees.2.1 77 = .ok (.ireturn, 1) := by decide +kernel
set_option maxRecDepth 100000 in
set_option maxHeartbeats 4000000 in
theorem ok_X7_sees {X : Xb} {S : Sg} {mi : Mem} {o a : Nat} (hM : MdA S o) (ha : a < 8) : OkI 3 fX7_sees X [rf X o, .int (nI a)] S mi (rSees (mi (o + 1)) a) mi := by
  refine Ok.go [some (rf X o), some (.int (nI a)), none, none, none, none, none] (by decide) (by simp [Value.category]) (Nat.le_of_ble_eq_true rfl) rfl ?_
  obtain ⟨k_o, ⟨r_o_now, k_o_now⟩, ⟨r_o_image, k_o_image⟩, ⟨r_o_aside, k_o_aside⟩, ⟨r_o_seen, k_o_seen⟩, ⟨r_o_unlike, k_o_unlike⟩, ⟨r_o_tape, k_o_tape⟩, ⟨r_o_keys, k_o_keys⟩, ⟨r_o_keyAt, k_o_keyAt⟩, ⟨r_o_code, k_o_code⟩, ⟨r_o_waits, k_o_waits⟩, ⟨r_o_tested, k_o_tested⟩, ⟨r_o_stack, k_o_stack⟩, ⟨r_o_facts, k_o_facts⟩, ⟨r_o_sorts, k_o_sorts⟩, ⟨r_o_sizes, k_o_sizes⟩, ⟨r_o_cells, k_o_cells⟩, ⟨r_o_holds, k_o_holds⟩, ⟨r_o_holdsA, k_o_holdsA⟩, ⟨r_o_holdsB, k_o_holdsB⟩, ⟨r_o_heldCells, k_o_heldCells⟩, ⟨r_o_moved, k_o_moved⟩, ⟨r_o_tells, k_o_tells⟩⟩ := id hM
  have lp := mw_dn (P := fun k => MW X fX7_sees (rmOf 3 0 0) 0 0 11 [some (rf X o), some (.int (nI a)), some (.int (seesTo (mSeeB (fun k => mi (o + 1) (10 + k)) (mi (o + 1) 2) (mi (o + 1) 9) (mi (o + 1) (26 + 5 * a)) (mi (o + 1) (26 + 5 * a + 1)) (mi (o + 1) (26 + 5 * a + 2))) k)), some (.int (mWide (mi (o + 1) 2) (mi (o + 1) (26 + 5 * a)) (mi (o + 1) (26 + 5 * a + 2)))), some (.int (nI k)), none, none] [] S mi (mQ X 0 0 (pI (rSees (mi (o + 1)) a) S mi))) 8 (by
    refine mw_iload dX7_sees_11 rfl ?_
    refine mw_bipush (v := 8) dX7_sees_13 (by decide) ?_
    refine mw_icmp_ge (tgt := 76) dX7_sees_15 (by decide) (fun h15 => ?_) (fun h15 => ?_)
    · skip
      refine mw_iload_n dX7_sees_76 rfl ?_
      exact mw_iret dX7_sees_77 rfl (by decide) (by decide) (⟨rfl, rfl, rfl⟩)
    · skip
      exact absurd (by decide) h15) (fun k hk ih => by
    refine mw_iload dX7_sees_11 rfl ?_
    refine mw_bipush (v := 8) dX7_sees_13 (by decide) ?_
    refine mw_icmp_ge (tgt := 76) dX7_sees_15 (by decide) (fun h15 => ?_) (fun h15 => ?_)
    · skip
      exact absurd h15 (nI_ge (b := 8) (by omega) (by decide))
    · skip
      refine mw_aload_n dX7_sees_18 rfl ?_
      refine mw_iload dX7_sees_19 rfl ?_
      refine mw_cVI (g := fX7_standsAt) dX7_sees_21 ml_X7_97 mfX7_standsAt (ok_X7_standsAt hM (k := k) (by omega)) (by assumption) rfl rfl (Nat.le_of_ble_eq_true rfl) ⟨by decide, by decide⟩ ⟨by decide, by decide⟩ ?_
      refine mw_istore dX7_sees_24 (by decide) ?_
      refine mw_iload dX7_sees_26 rfl ?_
      refine mw_aload_n dX7_sees_28 rfl ?_
      refine mw_iload_n dX7_sees_29 rfl ?_
      refine mw_iconst (v := 1) dX7_sees_30 (by decide) ?_
      refine mw_cVI (g := fX7_of) dX7_sees_31 ml_X7_86 mfX7_of (ok_X7_of hM (a := a) (w := 1) ha (by decide)) (by assumption) rfl rfl (Nat.le_of_ble_eq_true rfl) ⟨by decide, by decide⟩ ⟨by decide, by decide⟩ ?_
      refine mw_isub dX7_sees_34 ?_
      refine mw_bipush (v := 24) dX7_sees_35 (by decide) ?_
      refine mw_iadd dX7_sees_37 ?_
      refine mw_bipush (v := 24) dX7_sees_38 (by decide) ?_
      refine mw_irem dX7_sees_40 (by decide) ?_
      refine mw_istore dX7_sees_41 (by decide) ?_
      refine mw_iload_n dX7_sees_43 rfl ?_
      refine mw_iload dX7_sees_44 rfl ?_
      refine mw_iload_n dX7_sees_46 rfl ?_
      refine mw_icmp_ge (tgt := 67) dX7_sees_47 (by decide) (fun h47 => ?_) (fun h47 => ?_)
      · skip
        refine mw_iconst (v := 0) dX7_sees_67 (by decide) ?_
        refine mw_ior dX7_sees_68 ?_
        refine mw_istN 2 dX7_sees_69 rfl (by decide) ?_
        refine mw_iincK (k := k) dX7_sees_70 rfl rfl (by decide) ?_
        refine mw_goto (tgt := 11) dX7_sees_73 (by decide) ?_
        refine MW.back ih ?_
        simp [lsub, seesTo, mSeeB]
        grind
      · skip
        refine mw_aload_n dX7_sees_50 rfl ?_
        refine mw_iload_n dX7_sees_51 rfl ?_
        refine mw_iload dX7_sees_52 rfl ?_
        refine mw_cVI (g := fX7_isHidden) dX7_sees_54 ml_X7_100 mfX7_isHidden (ok_X7_isHidden hM ha) (by assumption) rfl rfl (Nat.le_of_ble_eq_true rfl) ⟨by decide, by decide⟩ ⟨by decide, by decide⟩ ?_
        refine mw_if_neB (tgt := 67) dX7_sees_57 (by decide) (fun h57 => ?_) (fun h57 => ?_)
        · skip
          refine mw_iconst (v := 0) dX7_sees_67 (by decide) ?_
          refine mw_ior dX7_sees_68 ?_
          refine mw_istN 2 dX7_sees_69 rfl (by decide) ?_
          refine mw_iincK (k := k) dX7_sees_70 rfl rfl (by decide) ?_
          refine mw_goto (tgt := 11) dX7_sees_73 (by decide) ?_
          refine MW.back ih ?_
          simp [lsub, seesTo, mSeeB]
          grind
        · skip
          refine mw_iconst (v := 1) dX7_sees_60 (by decide) ?_
          refine mw_iload dX7_sees_61 rfl ?_
          refine mw_ishl dX7_sees_63 ?_
          refine mw_goto (tgt := 68) dX7_sees_64 (by decide) ?_
          refine mw_ior dX7_sees_68 ?_
          refine mw_istN 2 dX7_sees_69 rfl (by decide) ?_
          refine mw_iincK (k := k) dX7_sees_70 rfl rfl (by decide) ?_
          refine mw_goto (tgt := 11) dX7_sees_73 (by decide) ?_
          refine MW.back ih ?_
          simp [lsub, seesTo, mSeeB]
          grind)
  refine mw_iconst (v := 0) dX7_sees_0 (by decide) ?_
  refine mw_istN 2 dX7_sees_1 rfl (by decide) ?_
  refine mw_aload_n dX7_sees_2 rfl ?_
  refine mw_iload_n dX7_sees_3 rfl ?_
  refine mw_cVI (g := fX7_wideOf) dX7_sees_4 ml_X7_93 mfX7_wideOf (ok_X7_wideOf hM ha) (by assumption) rfl rfl (Nat.le_of_ble_eq_true rfl) ⟨by decide, by decide⟩ ⟨by decide, by decide⟩ ?_
  refine mw_istN 3 dX7_sees_7 rfl (by decide) ?_
  refine mw_iconst (v := 0) dX7_sees_8 (by decide) ?_
  refine mw_istore dX7_sees_9 (by decide) ?_
  exact MW.back lp (by simp [lsub, seesTo, nI_0])
end
section
/-! a law on its pile -/
def cJoin (s a b : Int32) : Int32 := if s = 124 then (if a = 0 ∧ b = 0 then 0 else 1) else if s = 38 then (if a = 0 ∨ b = 0 then 0 else 1) else if s = 60 then (if a < b then 1 else 0) else if s = 61 then (if a = b then 1 else 0) else if s = 62 then (if b < a then 1 else 0) else if s = 43 then a + b else if s = 45 then a - b else if s = 42 then a * b else if s = 47 then (if b = 0 then 0 else a / b) else 0
theorem dX4_joined_0 : decode fX4_joined.2.1 0 = .ok (.iload_n 0, 1) := by decide +kernel
theorem dX4_joined_1 : decode fX4_joined.2.1 1 = .ok (.lookupswitch 168 #[(38, 97), (42, 152), (43, 144), (45, 148), (47, 156), (60, 111), (61, 122), (62, 133), (124, 83)], 83) := by decide +kernel
theorem dX4_joined_84 : decode fX4_joined.2.1 84 = .ok (.iload_n 1, 1) := by decide +kernel
theorem dX4_joined_85 : decode fX4_joined.2.1 85 = .ok (.ifCond .ne 7, 3) := by decide +kernel
theorem dX4_joined_88 : decode fX4_joined.2.1 88 = .ok (.iload_n 2, 1) := by decide +kernel
theorem dX4_joined_89 : decode fX4_joined.2.1 89 = .ok (.ifCond .eq 7, 3) := by decide +kernel
theorem dX4_joined_92 : decode fX4_joined.2.1 92 = .ok (.iconst 1, 1) := by decide +kernel
theorem dX4_joined_93 : decode fX4_joined.2.1 93 = .ok (.goto 4, 3) := by decide +kernel
theorem dX4_joined_96 : decode fX4_joined.2.1 96 = .ok (.iconst 0, 1) := by decide +kernel
theorem dX4_joined_97 : decode fX4_joined.2.1 97 = .ok (.ireturn, 1) := by decide +kernel
theorem dX4_joined_98 : decode fX4_joined.2.1 98 = .ok (.iload_n 1, 1) := by decide +kernel
theorem dX4_joined_99 : decode fX4_joined.2.1 99 = .ok (.ifCond .eq 11, 3) := by decide +kernel
theorem dX4_joined_102 : decode fX4_joined.2.1 102 = .ok (.iload_n 2, 1) := by decide +kernel
theorem dX4_joined_103 : decode fX4_joined.2.1 103 = .ok (.ifCond .eq 7, 3) := by decide +kernel
theorem dX4_joined_106 : decode fX4_joined.2.1 106 = .ok (.iconst 1, 1) := by decide +kernel
theorem dX4_joined_107 : decode fX4_joined.2.1 107 = .ok (.goto 4, 3) := by decide +kernel
theorem dX4_joined_110 : decode fX4_joined.2.1 110 = .ok (.iconst 0, 1) := by decide +kernel
theorem dX4_joined_111 : decode fX4_joined.2.1 111 = .ok (.ireturn, 1) := by decide +kernel
theorem dX4_joined_112 : decode fX4_joined.2.1 112 = .ok (.iload_n 1, 1) := by decide +kernel
theorem dX4_joined_113 : decode fX4_joined.2.1 113 = .ok (.iload_n 2, 1) := by decide +kernel
theorem dX4_joined_114 : decode fX4_joined.2.1 114 = .ok (.if_icmp .ge 7, 3) := by decide +kernel
theorem dX4_joined_117 : decode fX4_joined.2.1 117 = .ok (.iconst 1, 1) := by decide +kernel
theorem dX4_joined_118 : decode fX4_joined.2.1 118 = .ok (.goto 4, 3) := by decide +kernel
theorem dX4_joined_121 : decode fX4_joined.2.1 121 = .ok (.iconst 0, 1) := by decide +kernel
theorem dX4_joined_122 : decode fX4_joined.2.1 122 = .ok (.ireturn, 1) := by decide +kernel
theorem dX4_joined_123 : decode fX4_joined.2.1 123 = .ok (.iload_n 1, 1) := by decide +kernel
theorem dX4_joined_124 : decode fX4_joined.2.1 124 = .ok (.iload_n 2, 1) := by decide +kernel
theorem dX4_joined_125 : decode fX4_joined.2.1 125 = .ok (.if_icmp .ne 7, 3) := by decide +kernel
theorem dX4_joined_128 : decode fX4_joined.2.1 128 = .ok (.iconst 1, 1) := by decide +kernel
theorem dX4_joined_129 : decode fX4_joined.2.1 129 = .ok (.goto 4, 3) := by decide +kernel
theorem dX4_joined_132 : decode fX4_joined.2.1 132 = .ok (.iconst 0, 1) := by decide +kernel
theorem dX4_joined_133 : decode fX4_joined.2.1 133 = .ok (.ireturn, 1) := by decide +kernel
theorem dX4_joined_134 : decode fX4_joined.2.1 134 = .ok (.iload_n 1, 1) := by decide +kernel
theorem dX4_joined_135 : decode fX4_joined.2.1 135 = .ok (.iload_n 2, 1) := by decide +kernel
theorem dX4_joined_136 : decode fX4_joined.2.1 136 = .ok (.if_icmp .le 7, 3) := by decide +kernel
theorem dX4_joined_139 : decode fX4_joined.2.1 139 = .ok (.iconst 1, 1) := by decide +kernel
theorem dX4_joined_140 : decode fX4_joined.2.1 140 = .ok (.goto 4, 3) := by decide +kernel
theorem dX4_joined_143 : decode fX4_joined.2.1 143 = .ok (.iconst 0, 1) := by decide +kernel
theorem dX4_joined_144 : decode fX4_joined.2.1 144 = .ok (.ireturn, 1) := by decide +kernel
theorem dX4_joined_145 : decode fX4_joined.2.1 145 = .ok (.iload_n 1, 1) := by decide +kernel
theorem dX4_joined_146 : decode fX4_joined.2.1 146 = .ok (.iload_n 2, 1) := by decide +kernel
theorem dX4_joined_147 : decode fX4_joined.2.1 147 = .ok (.iadd, 1) := by decide +kernel
theorem dX4_joined_148 : decode fX4_joined.2.1 148 = .ok (.ireturn, 1) := by decide +kernel
theorem dX4_joined_149 : decode fX4_joined.2.1 149 = .ok (.iload_n 1, 1) := by decide +kernel
theorem dX4_joined_150 : decode fX4_joined.2.1 150 = .ok (.iload_n 2, 1) := by decide +kernel
theorem dX4_joined_151 : decode fX4_joined.2.1 151 = .ok (.isub, 1) := by decide +kernel
theorem dX4_joined_152 : decode fX4_joined.2.1 152 = .ok (.ireturn, 1) := by decide +kernel
theorem dX4_joined_153 : decode fX4_joined.2.1 153 = .ok (.iload_n 1, 1) := by decide +kernel
theorem dX4_joined_154 : decode fX4_joined.2.1 154 = .ok (.iload_n 2, 1) := by decide +kernel
theorem dX4_joined_155 : decode fX4_joined.2.1 155 = .ok (.imul, 1) := by decide +kernel
theorem dX4_joined_156 : decode fX4_joined.2.1 156 = .ok (.ireturn, 1) := by decide +kernel
theorem dX4_joined_157 : decode fX4_joined.2.1 157 = .ok (.iload_n 2, 1) := by decide +kernel
theorem dX4_joined_158 : decode fX4_joined.2.1 158 = .ok (.ifCond .ne 7, 3) := by decide +kernel
theorem dX4_joined_161 : decode fX4_joined.2.1 161 = .ok (.iconst 0, 1) := by decide +kernel
theorem dX4_joined_162 : decode fX4_joined.2.1 162 = .ok (.goto 6, 3) := by decide +kernel
theorem dX4_joined_165 : decode fX4_joined.2.1 165 = .ok (.iload_n 1, 1) := by decide +kernel
theorem dX4_joined_166 : decode fX4_joined.2.1 166 = .ok (.iload_n 2, 1) := by decide +kernel
theorem dX4_joined_167 : decode fX4_joined.2.1 167 = .ok (.idiv, 1) := by decide +kernel
theorem dX4_joined_168 : decode fX4_joined.2.1 168 = .ok (.ireturn, 1) := by decide +kernel
theorem dX4_joined_169 : decode fX4_joined.2.1 169 = .ok (.iconst 0, 1) := by decide +kernel
theorem dX4_joined_170 : decode fX4_joined.2.1 170 = .ok (.ireturn, 1) := by decide +kernel
set_option maxRecDepth 100000 in
set_option maxHeartbeats 4000000 in
theorem ok_X4_joined {X : Xb} {S : Sg} {mi : Mem} {s a b : Int32} : OkI 0 fX4_joined X [.int s, .int a, .int b] S mi (cJoin s a b) mi := by
  refine Ok.go [some (.int s), some (.int a), some (.int b)] (by decide) (by simp [Value.category]) (Nat.le_of_ble_eq_true rfl) rfl ?_
  refine mw_iload_n dX4_joined_0 rfl ?_
  refine mw_ls1 dX4_joined_1 (by decide) 38 98 (by decide) (fun h1_38 => ?_) (fun h1_38 => ?_)
  · skip
    refine mw_iload_n dX4_joined_98 rfl ?_
    refine mw_if_eq (tgt := 110) dX4_joined_99 (by decide) (fun h99 => ?_) (fun h99 => ?_)
    · skip
      refine mw_iconst (v := 0) dX4_joined_110 (by decide) ?_
      exact mw_iret dX4_joined_111 rfl (by decide) (by decide) (⟨by grind [cJoin], rfl, rfl⟩)
    · skip
      refine mw_iload_n dX4_joined_102 rfl ?_
      refine mw_if_eq (tgt := 110) dX4_joined_103 (by decide) (fun h103 => ?_) (fun h103 => ?_)
      · skip
        refine mw_iconst (v := 0) dX4_joined_110 (by decide) ?_
        exact mw_iret dX4_joined_111 rfl (by decide) (by decide) (⟨by grind [cJoin], rfl, rfl⟩)
      · skip
        refine mw_iconst (v := 1) dX4_joined_106 (by decide) ?_
        refine mw_goto (tgt := 111) dX4_joined_107 (by decide) ?_
        exact mw_iret dX4_joined_111 rfl (by decide) (by decide) (⟨by grind [cJoin], rfl, rfl⟩)
  refine mw_ls1 dX4_joined_1 (by decide) 42 153 (by decide) (fun h1_42 => ?_) (fun h1_42 => ?_)
  · skip
    refine mw_iload_n dX4_joined_153 rfl ?_
    refine mw_iload_n dX4_joined_154 rfl ?_
    refine mw_imul dX4_joined_155 ?_
    exact mw_iret dX4_joined_156 rfl (by decide) (by decide) (⟨by grind [cJoin], rfl, rfl⟩)
  refine mw_ls1 dX4_joined_1 (by decide) 43 145 (by decide) (fun h1_43 => ?_) (fun h1_43 => ?_)
  · skip
    refine mw_iload_n dX4_joined_145 rfl ?_
    refine mw_iload_n dX4_joined_146 rfl ?_
    refine mw_iadd dX4_joined_147 ?_
    exact mw_iret dX4_joined_148 rfl (by decide) (by decide) (⟨by grind [cJoin], rfl, rfl⟩)
  refine mw_ls1 dX4_joined_1 (by decide) 45 149 (by decide) (fun h1_45 => ?_) (fun h1_45 => ?_)
  · skip
    refine mw_iload_n dX4_joined_149 rfl ?_
    refine mw_iload_n dX4_joined_150 rfl ?_
    refine mw_isub dX4_joined_151 ?_
    exact mw_iret dX4_joined_152 rfl (by decide) (by decide) (⟨by grind [cJoin], rfl, rfl⟩)
  refine mw_ls1 dX4_joined_1 (by decide) 47 157 (by decide) (fun h1_47 => ?_) (fun h1_47 => ?_)
  · skip
    refine mw_iload_n dX4_joined_157 rfl ?_
    refine mw_if_ne (tgt := 165) dX4_joined_158 (by decide) (fun h158 => ?_) (fun h158 => ?_)
    · skip
      refine mw_iload_n dX4_joined_165 rfl ?_
      refine mw_iload_n dX4_joined_166 rfl ?_
      refine mw_idiv dX4_joined_167 (h158) ?_
      exact mw_iret dX4_joined_168 rfl (by decide) (by decide) (⟨by grind [cJoin], rfl, rfl⟩)
    · skip
      refine mw_iconst (v := 0) dX4_joined_161 (by decide) ?_
      refine mw_goto (tgt := 168) dX4_joined_162 (by decide) ?_
      exact mw_iret dX4_joined_168 rfl (by decide) (by decide) (⟨by grind [cJoin], rfl, rfl⟩)
  refine mw_ls1 dX4_joined_1 (by decide) 60 112 (by decide) (fun h1_60 => ?_) (fun h1_60 => ?_)
  · skip
    refine mw_iload_n dX4_joined_112 rfl ?_
    refine mw_iload_n dX4_joined_113 rfl ?_
    refine mw_icmp_ge (tgt := 121) dX4_joined_114 (by decide) (fun h114 => ?_) (fun h114 => ?_)
    · skip
      refine mw_iconst (v := 0) dX4_joined_121 (by decide) ?_
      exact mw_iret dX4_joined_122 rfl (by decide) (by decide) (⟨by grind [cJoin], rfl, rfl⟩)
    · skip
      refine mw_iconst (v := 1) dX4_joined_117 (by decide) ?_
      refine mw_goto (tgt := 122) dX4_joined_118 (by decide) ?_
      exact mw_iret dX4_joined_122 rfl (by decide) (by decide) (⟨by grind [cJoin], rfl, rfl⟩)
  refine mw_ls1 dX4_joined_1 (by decide) 61 123 (by decide) (fun h1_61 => ?_) (fun h1_61 => ?_)
  · skip
    refine mw_iload_n dX4_joined_123 rfl ?_
    refine mw_iload_n dX4_joined_124 rfl ?_
    refine mw_icmp_ne (tgt := 132) dX4_joined_125 (by decide) (fun h125 => ?_) (fun h125 => ?_)
    · skip
      refine mw_iconst (v := 0) dX4_joined_132 (by decide) ?_
      exact mw_iret dX4_joined_133 rfl (by decide) (by decide) (⟨by grind [cJoin], rfl, rfl⟩)
    · skip
      refine mw_iconst (v := 1) dX4_joined_128 (by decide) ?_
      refine mw_goto (tgt := 133) dX4_joined_129 (by decide) ?_
      exact mw_iret dX4_joined_133 rfl (by decide) (by decide) (⟨by grind [cJoin], rfl, rfl⟩)
  refine mw_ls1 dX4_joined_1 (by decide) 62 134 (by decide) (fun h1_62 => ?_) (fun h1_62 => ?_)
  · skip
    refine mw_iload_n dX4_joined_134 rfl ?_
    refine mw_iload_n dX4_joined_135 rfl ?_
    refine mw_icmp_le (tgt := 143) dX4_joined_136 (by decide) (fun h136 => ?_) (fun h136 => ?_)
    · skip
      refine mw_iconst (v := 0) dX4_joined_143 (by decide) ?_
      exact mw_iret dX4_joined_144 rfl (by decide) (by decide) (⟨by grind [cJoin], rfl, rfl⟩)
    · skip
      refine mw_iconst (v := 1) dX4_joined_139 (by decide) ?_
      refine mw_goto (tgt := 144) dX4_joined_140 (by decide) ?_
      exact mw_iret dX4_joined_144 rfl (by decide) (by decide) (⟨by grind [cJoin], rfl, rfl⟩)
  refine mw_ls1 dX4_joined_1 (by decide) 124 84 (by decide) (fun h1_124 => ?_) (fun h1_124 => ?_)
  · skip
    refine mw_iload_n dX4_joined_84 rfl ?_
    refine mw_if_ne (tgt := 92) dX4_joined_85 (by decide) (fun h85 => ?_) (fun h85 => ?_)
    · skip
      refine mw_iconst (v := 1) dX4_joined_92 (by decide) ?_
      refine mw_goto (tgt := 97) dX4_joined_93 (by decide) ?_
      exact mw_iret dX4_joined_97 rfl (by decide) (by decide) (⟨by grind [cJoin], rfl, rfl⟩)
    · skip
      refine mw_iload_n dX4_joined_88 rfl ?_
      refine mw_if_eq (tgt := 96) dX4_joined_89 (by decide) (fun h89 => ?_) (fun h89 => ?_)
      · skip
        refine mw_iconst (v := 0) dX4_joined_96 (by decide) ?_
        exact mw_iret dX4_joined_97 rfl (by decide) (by decide) (⟨by grind [cJoin], rfl, rfl⟩)
      · skip
        refine mw_iconst (v := 1) dX4_joined_92 (by decide) ?_
        refine mw_goto (tgt := 97) dX4_joined_93 (by decide) ?_
        exact mw_iret dX4_joined_97 rfl (by decide) (by decide) (⟨by grind [cJoin], rfl, rfl⟩)
  refine mw_ls0 dX4_joined_1 (by decide) 169 (by decide) (by have e0 := ne_toI (n := 38) (by decide) h1_38; have e1 := ne_toI (n := 42) (by decide) h1_42; have e2 := ne_toI (n := 43) (by decide) h1_43; have e3 := ne_toI (n := 45) (by decide) h1_45; have e4 := ne_toI (n := 47) (by decide) h1_47; have e5 := ne_toI (n := 60) (by decide) h1_60; have e6 := ne_toI (n := 61) (by decide) h1_61; have e7 := ne_toI (n := 62) (by decide) h1_62; have e8 := ne_toI (n := 124) (by decide) h1_124; simp; omega) ?_
  refine mw_iconst (v := 0) dX4_joined_169 (by decide) ?_
  exact mw_iret dX4_joined_170 rfl (by decide) (by decide) (⟨by grind [cJoin], rfl, rfl⟩)
def mTwo (s a b : Int32) : Int32 := if s = -1 then (if a = 0 ∧ b = 0 then 0 else 1) else if s = -2 then (if a = 0 ∨ b = 0 then 0 else 1) else if s = -3 then (if a < b then 1 else 0) else if s = -4 then (if a = b then 1 else 0) else if s = -5 then (if b < a then 1 else 0) else if s = -6 then a + b else if s = -7 then a - b else if s = -8 then a * b else (if b = 0 then 0 else a / b)
theorem dX7_two_0 : decode fX7_two.2.1 0 = .ok (.iload_n 0, 1) := by decide +kernel
theorem dX7_two_1 : decode fX7_two.2.1 1 = .ok (.tableswitch 120 (-8) (-1) #[116, 112, 108, 97, 86, 75, 61, 47], 47) := by decide +kernel
theorem dX7_two_48 : decode fX7_two.2.1 48 = .ok (.iload_n 1, 1) := by decide +kernel
theorem dX7_two_49 : decode fX7_two.2.1 49 = .ok (.ifCond .ne 7, 3) := by decide +kernel
theorem dX7_two_52 : decode fX7_two.2.1 52 = .ok (.iload_n 2, 1) := by decide +kernel
theorem dX7_two_53 : decode fX7_two.2.1 53 = .ok (.ifCond .eq 7, 3) := by decide +kernel
theorem dX7_two_56 : decode fX7_two.2.1 56 = .ok (.iconst 1, 1) := by decide +kernel
theorem dX7_two_57 : decode fX7_two.2.1 57 = .ok (.goto 4, 3) := by decide +kernel
theorem dX7_two_60 : decode fX7_two.2.1 60 = .ok (.iconst 0, 1) := by decide +kernel
theorem dX7_two_61 : decode fX7_two.2.1 61 = .ok (.ireturn, 1) := by decide +kernel
theorem dX7_two_62 : decode fX7_two.2.1 62 = .ok (.iload_n 1, 1) := by decide +kernel
theorem dX7_two_63 : decode fX7_two.2.1 63 = .ok (.ifCond .eq 11, 3) := by decide +kernel
theorem dX7_two_66 : decode fX7_two.2.1 66 = .ok (.iload_n 2, 1) := by decide +kernel
theorem dX7_two_67 : decode fX7_two.2.1 67 = .ok (.ifCond .eq 7, 3) := by decide +kernel
theorem dX7_two_70 : decode fX7_two.2.1 70 = .ok (.iconst 1, 1) := by decide +kernel
theorem dX7_two_71 : decode fX7_two.2.1 71 = .ok (.goto 4, 3) := by decide +kernel
theorem dX7_two_74 : decode fX7_two.2.1 74 = .ok (.iconst 0, 1) := by decide +kernel
theorem dX7_two_75 : decode fX7_two.2.1 75 = .ok (.ireturn, 1) := by decide +kernel
theorem dX7_two_76 : decode fX7_two.2.1 76 = .ok (.iload_n 1, 1) := by decide +kernel
theorem dX7_two_77 : decode fX7_two.2.1 77 = .ok (.iload_n 2, 1) := by decide +kernel
theorem dX7_two_78 : decode fX7_two.2.1 78 = .ok (.if_icmp .ge 7, 3) := by decide +kernel
theorem dX7_two_81 : decode fX7_two.2.1 81 = .ok (.iconst 1, 1) := by decide +kernel
theorem dX7_two_82 : decode fX7_two.2.1 82 = .ok (.goto 4, 3) := by decide +kernel
theorem dX7_two_85 : decode fX7_two.2.1 85 = .ok (.iconst 0, 1) := by decide +kernel
theorem dX7_two_86 : decode fX7_two.2.1 86 = .ok (.ireturn, 1) := by decide +kernel
theorem dX7_two_87 : decode fX7_two.2.1 87 = .ok (.iload_n 1, 1) := by decide +kernel
theorem dX7_two_88 : decode fX7_two.2.1 88 = .ok (.iload_n 2, 1) := by decide +kernel
theorem dX7_two_89 : decode fX7_two.2.1 89 = .ok (.if_icmp .ne 7, 3) := by decide +kernel
theorem dX7_two_92 : decode fX7_two.2.1 92 = .ok (.iconst 1, 1) := by decide +kernel
theorem dX7_two_93 : decode fX7_two.2.1 93 = .ok (.goto 4, 3) := by decide +kernel
theorem dX7_two_96 : decode fX7_two.2.1 96 = .ok (.iconst 0, 1) := by decide +kernel
theorem dX7_two_97 : decode fX7_two.2.1 97 = .ok (.ireturn, 1) := by decide +kernel
theorem dX7_two_98 : decode fX7_two.2.1 98 = .ok (.iload_n 1, 1) := by decide +kernel
theorem dX7_two_99 : decode fX7_two.2.1 99 = .ok (.iload_n 2, 1) := by decide +kernel
theorem dX7_two_100 : decode fX7_two.2.1 100 = .ok (.if_icmp .le 7, 3) := by decide +kernel
theorem dX7_two_103 : decode fX7_two.2.1 103 = .ok (.iconst 1, 1) := by decide +kernel
theorem dX7_two_104 : decode fX7_two.2.1 104 = .ok (.goto 4, 3) := by decide +kernel
theorem dX7_two_107 : decode fX7_two.2.1 107 = .ok (.iconst 0, 1) := by decide +kernel
theorem dX7_two_108 : decode fX7_two.2.1 108 = .ok (.ireturn, 1) := by decide +kernel
theorem dX7_two_109 : decode fX7_two.2.1 109 = .ok (.iload_n 1, 1) := by decide +kernel
theorem dX7_two_110 : decode fX7_two.2.1 110 = .ok (.iload_n 2, 1) := by decide +kernel
theorem dX7_two_111 : decode fX7_two.2.1 111 = .ok (.iadd, 1) := by decide +kernel
theorem dX7_two_112 : decode fX7_two.2.1 112 = .ok (.ireturn, 1) := by decide +kernel
theorem dX7_two_113 : decode fX7_two.2.1 113 = .ok (.iload_n 1, 1) := by decide +kernel
theorem dX7_two_114 : decode fX7_two.2.1 114 = .ok (.iload_n 2, 1) := by decide +kernel
theorem dX7_two_115 : decode fX7_two.2.1 115 = .ok (.isub, 1) := by decide +kernel
theorem dX7_two_116 : decode fX7_two.2.1 116 = .ok (.ireturn, 1) := by decide +kernel
theorem dX7_two_117 : decode fX7_two.2.1 117 = .ok (.iload_n 1, 1) := by decide +kernel
theorem dX7_two_118 : decode fX7_two.2.1 118 = .ok (.iload_n 2, 1) := by decide +kernel
theorem dX7_two_119 : decode fX7_two.2.1 119 = .ok (.imul, 1) := by decide +kernel
theorem dX7_two_120 : decode fX7_two.2.1 120 = .ok (.ireturn, 1) := by decide +kernel
theorem dX7_two_121 : decode fX7_two.2.1 121 = .ok (.iload_n 2, 1) := by decide +kernel
theorem dX7_two_122 : decode fX7_two.2.1 122 = .ok (.ifCond .ne 7, 3) := by decide +kernel
theorem dX7_two_125 : decode fX7_two.2.1 125 = .ok (.iconst 0, 1) := by decide +kernel
theorem dX7_two_126 : decode fX7_two.2.1 126 = .ok (.goto 6, 3) := by decide +kernel
theorem dX7_two_129 : decode fX7_two.2.1 129 = .ok (.iload_n 1, 1) := by decide +kernel
theorem dX7_two_130 : decode fX7_two.2.1 130 = .ok (.iload_n 2, 1) := by decide +kernel
theorem dX7_two_131 : decode fX7_two.2.1 131 = .ok (.idiv, 1) := by decide +kernel
theorem dX7_two_132 : decode fX7_two.2.1 132 = .ok (.ireturn, 1) := by decide +kernel
set_option maxRecDepth 100000 in
set_option maxHeartbeats 4000000 in
theorem ok_X7_two {X : Xb} {S : Sg} {mi : Mem} {s a b : Int32} : OkI 0 fX7_two X [.int s, .int a, .int b] S mi (mTwo s a b) mi := by
  refine Ok.go [some (.int s), some (.int a), some (.int b)] (by decide) (by simp [Value.category]) (Nat.le_of_ble_eq_true rfl) rfl ?_
  refine mw_iload_n dX7_two_0 rfl ?_
  refine mw_ts1 dX7_two_1 (by decide) (-8) 117 (by decide) (fun h1_m8 => ?_) (fun h1_m8 => ?_)
  · skip
    refine mw_iload_n dX7_two_117 rfl ?_
    refine mw_iload_n dX7_two_118 rfl ?_
    refine mw_imul dX7_two_119 ?_
    exact mw_iret dX7_two_120 rfl (by decide) (by decide) (⟨by grind [mTwo], rfl, rfl⟩)
  refine mw_ts1 dX7_two_1 (by decide) (-7) 113 (by decide) (fun h1_m7 => ?_) (fun h1_m7 => ?_)
  · skip
    refine mw_iload_n dX7_two_113 rfl ?_
    refine mw_iload_n dX7_two_114 rfl ?_
    refine mw_isub dX7_two_115 ?_
    exact mw_iret dX7_two_116 rfl (by decide) (by decide) (⟨by grind [mTwo], rfl, rfl⟩)
  refine mw_ts1 dX7_two_1 (by decide) (-6) 109 (by decide) (fun h1_m6 => ?_) (fun h1_m6 => ?_)
  · skip
    refine mw_iload_n dX7_two_109 rfl ?_
    refine mw_iload_n dX7_two_110 rfl ?_
    refine mw_iadd dX7_two_111 ?_
    exact mw_iret dX7_two_112 rfl (by decide) (by decide) (⟨by grind [mTwo], rfl, rfl⟩)
  refine mw_ts1 dX7_two_1 (by decide) (-5) 98 (by decide) (fun h1_m5 => ?_) (fun h1_m5 => ?_)
  · skip
    refine mw_iload_n dX7_two_98 rfl ?_
    refine mw_iload_n dX7_two_99 rfl ?_
    refine mw_icmp_le (tgt := 107) dX7_two_100 (by decide) (fun h100 => ?_) (fun h100 => ?_)
    · skip
      refine mw_iconst (v := 0) dX7_two_107 (by decide) ?_
      exact mw_iret dX7_two_108 rfl (by decide) (by decide) (⟨by grind [mTwo], rfl, rfl⟩)
    · skip
      refine mw_iconst (v := 1) dX7_two_103 (by decide) ?_
      refine mw_goto (tgt := 108) dX7_two_104 (by decide) ?_
      exact mw_iret dX7_two_108 rfl (by decide) (by decide) (⟨by grind [mTwo], rfl, rfl⟩)
  refine mw_ts1 dX7_two_1 (by decide) (-4) 87 (by decide) (fun h1_m4 => ?_) (fun h1_m4 => ?_)
  · skip
    refine mw_iload_n dX7_two_87 rfl ?_
    refine mw_iload_n dX7_two_88 rfl ?_
    refine mw_icmp_ne (tgt := 96) dX7_two_89 (by decide) (fun h89 => ?_) (fun h89 => ?_)
    · skip
      refine mw_iconst (v := 0) dX7_two_96 (by decide) ?_
      exact mw_iret dX7_two_97 rfl (by decide) (by decide) (⟨by grind [mTwo], rfl, rfl⟩)
    · skip
      refine mw_iconst (v := 1) dX7_two_92 (by decide) ?_
      refine mw_goto (tgt := 97) dX7_two_93 (by decide) ?_
      exact mw_iret dX7_two_97 rfl (by decide) (by decide) (⟨by grind [mTwo], rfl, rfl⟩)
  refine mw_ts1 dX7_two_1 (by decide) (-3) 76 (by decide) (fun h1_m3 => ?_) (fun h1_m3 => ?_)
  · skip
    refine mw_iload_n dX7_two_76 rfl ?_
    refine mw_iload_n dX7_two_77 rfl ?_
    refine mw_icmp_ge (tgt := 85) dX7_two_78 (by decide) (fun h78 => ?_) (fun h78 => ?_)
    · skip
      refine mw_iconst (v := 0) dX7_two_85 (by decide) ?_
      exact mw_iret dX7_two_86 rfl (by decide) (by decide) (⟨by grind [mTwo], rfl, rfl⟩)
    · skip
      refine mw_iconst (v := 1) dX7_two_81 (by decide) ?_
      refine mw_goto (tgt := 86) dX7_two_82 (by decide) ?_
      exact mw_iret dX7_two_86 rfl (by decide) (by decide) (⟨by grind [mTwo], rfl, rfl⟩)
  refine mw_ts1 dX7_two_1 (by decide) (-2) 62 (by decide) (fun h1_m2 => ?_) (fun h1_m2 => ?_)
  · skip
    refine mw_iload_n dX7_two_62 rfl ?_
    refine mw_if_eq (tgt := 74) dX7_two_63 (by decide) (fun h63 => ?_) (fun h63 => ?_)
    · skip
      refine mw_iconst (v := 0) dX7_two_74 (by decide) ?_
      exact mw_iret dX7_two_75 rfl (by decide) (by decide) (⟨by grind [mTwo], rfl, rfl⟩)
    · skip
      refine mw_iload_n dX7_two_66 rfl ?_
      refine mw_if_eq (tgt := 74) dX7_two_67 (by decide) (fun h67 => ?_) (fun h67 => ?_)
      · skip
        refine mw_iconst (v := 0) dX7_two_74 (by decide) ?_
        exact mw_iret dX7_two_75 rfl (by decide) (by decide) (⟨by grind [mTwo], rfl, rfl⟩)
      · skip
        refine mw_iconst (v := 1) dX7_two_70 (by decide) ?_
        refine mw_goto (tgt := 75) dX7_two_71 (by decide) ?_
        exact mw_iret dX7_two_75 rfl (by decide) (by decide) (⟨by grind [mTwo], rfl, rfl⟩)
  refine mw_ts1 dX7_two_1 (by decide) (-1) 48 (by decide) (fun h1_m1 => ?_) (fun h1_m1 => ?_)
  · skip
    refine mw_iload_n dX7_two_48 rfl ?_
    refine mw_if_ne (tgt := 56) dX7_two_49 (by decide) (fun h49 => ?_) (fun h49 => ?_)
    · skip
      refine mw_iconst (v := 1) dX7_two_56 (by decide) ?_
      refine mw_goto (tgt := 61) dX7_two_57 (by decide) ?_
      exact mw_iret dX7_two_61 rfl (by decide) (by decide) (⟨by grind [mTwo], rfl, rfl⟩)
    · skip
      refine mw_iload_n dX7_two_52 rfl ?_
      refine mw_if_eq (tgt := 60) dX7_two_53 (by decide) (fun h53 => ?_) (fun h53 => ?_)
      · skip
        refine mw_iconst (v := 0) dX7_two_60 (by decide) ?_
        exact mw_iret dX7_two_61 rfl (by decide) (by decide) (⟨by grind [mTwo], rfl, rfl⟩)
      · skip
        refine mw_iconst (v := 1) dX7_two_56 (by decide) ?_
        refine mw_goto (tgt := 61) dX7_two_57 (by decide) ?_
        exact mw_iret dX7_two_61 rfl (by decide) (by decide) (⟨by grind [mTwo], rfl, rfl⟩)
  refine mw_ts0 dX7_two_1 (by decide) 121 (by decide) (by have e0 := ne_toI (n := -8) (by decide) h1_m8; have e1 := ne_toI (n := -7) (by decide) h1_m7; have e2 := ne_toI (n := -6) (by decide) h1_m6; have e3 := ne_toI (n := -5) (by decide) h1_m5; have e4 := ne_toI (n := -4) (by decide) h1_m4; have e5 := ne_toI (n := -3) (by decide) h1_m3; have e6 := ne_toI (n := -2) (by decide) h1_m2; have e7 := ne_toI (n := -1) (by decide) h1_m1; omega) ?_
  refine mw_iload_n dX7_two_121 rfl ?_
  refine mw_if_ne (tgt := 129) dX7_two_122 (by decide) (fun h122 => ?_) (fun h122 => ?_)
  · skip
    refine mw_iload_n dX7_two_129 rfl ?_
    refine mw_iload_n dX7_two_130 rfl ?_
    refine mw_idiv dX7_two_131 (h122) ?_
    exact mw_iret dX7_two_132 rfl (by decide) (by decide) (⟨by grind [mTwo], rfl, rfl⟩)
  · skip
    refine mw_iconst (v := 0) dX7_two_125 (by decide) ?_
    refine mw_goto (tgt := 132) dX7_two_126 (by decide) ?_
    exact mw_iret dX7_two_132 rfl (by decide) (by decide) (⟨by grind [mTwo], rfl, rfl⟩)
theorem m_row_ne {mi : Mem} {q a : Nat} {f : Nat → Int32} (h : a ≠ q) : m_row mi q f a = mi a := by
  funext k; simp [m_row, h]
theorem m_row_self (mi : Mem) (q : Nat) (f : Nat → Int32) : m_row mi q f q = f := by
  funext k; simp [m_row]
theorem m_up_mrow (mi : Mem) (q k : Nat) (f : Nat → Int32) (v : Int32) : m_up (m_row mi q f) q k v = m_row mi q (upd f k v) := by
  funext a b; simp only [m_up, m_row, upd]; grind
theorem m_row_id (mi : Mem) (q : Nat) : m_row mi q (mi q) = mi := by
  funext a b; simp only [m_row]; grind
theorem nmIx {x : Int32} (h1 : ¬ x < -4) (h2 : x < 0) : vp_in (-1 - x) 4 := by
  have e1 : ¬ x.toInt < -4 := fun h => h1 (Int32.lt_iff_toInt_lt.mpr h)
  have e2 : x.toInt < 0 := Int32.lt_iff_toInt_lt.mp h2
  have : x = -1 ∨ x = -2 ∨ x = -3 ∨ x = -4 := by
    have c1 : (-1 : Int32).toInt = -1 := by decide
    have c2 : (-2 : Int32).toInt = -2 := by decide
    have c3 : (-3 : Int32).toInt = -3 := by decide
    have c4 : (-4 : Int32).toInt = -4 := by decide
    rw [← Int32.toInt_inj, ← Int32.toInt_inj, ← Int32.toInt_inj, ← Int32.toInt_inj, c1, c2, c3, c4]
    omega
  rcases this with rfl | rfl | rfl | rfl <;> (unfold vp_in; decide)
def gStep (nm : Nat → Int32) (st : Nat × (Nat → Int32)) (x : Int32) : Nat × (Nat → Int32) :=
  if x < -4 then
    if x = -33 then (if st.1 < 1 then st else (st.1, upd st.2 (st.1 - 1) (if st.2 (st.1 - 1) = 0 then 1 else 0)))
    else if st.1 < 2 then st else (st.1 - 1, upd st.2 (st.1 - 2) (cJoin (-x) (st.2 (st.1 - 2)) (st.2 (st.1 - 1))))
  else if st.1 < 96 then (st.1 + 1, upd st.2 st.1 (if x < 0 then nm (-1 - x).toNatClampNeg else x)) else st
def gRun (nm s p : Nat → Int32) : Nat → Nat × (Nat → Int32)
  | 0 => (0, p)
  | k + 1 => gStep nm (gRun nm s p k) (s k)
theorem gRun_le (nm s p : Nat → Int32) : ∀ k, (gRun nm s p k).1 ≤ 96
  | 0 => by simp [gRun]
  | k + 1 => by
    have := gRun_le nm s p k
    simp only [gRun, gStep]
    grind
theorem nI_sub1 {h : Nat} (hh : 1 ≤ h) : nI h - 1 = nI (h - 1) := by
  obtain ⟨j, rfl⟩ : ∃ j, h = j + 1 := ⟨h - 1, by omega⟩
  rw [nI_pred]; rfl
theorem nI_dec {h : Nat} (hh : 1 ≤ h) : nI h + Int32.ofInt (-1) = nI (h - 1) := by
  have e : Int32.ofInt (-1) = -1 := by decide
  rw [e, ← Int32.sub_eq_add_neg, nI_sub1 hh]
theorem nI_lt1 {h : Nat} (hh : h < 2 ^ 31) (j : Nat) (hj : j < 2 ^ 31) : nI h < nI j ↔ h < j := nI_ltI hh hj
theorem dX4_gives_0 : decode fX4_gives.2.1 0 = .ok (.iconst 0, 1) := by decide +kernel
theorem dX4_gives_1 : decode fX4_gives.2.1 1 = .ok (.istore_n 3, 1) := by decide +kernel
theorem dX4_gives_2 : decode fX4_gives.2.1 2 = .ok (.iconst 0, 1) := by decide +kernel
theorem dX4_gives_3 : decode fX4_gives.2.1 3 = .ok (.istore 4, 2) := by decide +kernel
theorem dX4_gives_5 : decode fX4_gives.2.1 5 = .ok (.iload 4, 2) := by decide +kernel
theorem dX4_gives_7 : decode fX4_gives.2.1 7 = .ok (.aload_n 0, 1) := by decide +kernel
theorem dX4_gives_8 : decode fX4_gives.2.1 8 = .ok (.getfield 16, 3) := by decide +kernel
theorem dX4_gives_11 : decode fX4_gives.2.1 11 = .ok (.arraylength, 1) := by decide +kernel
theorem dX4_gives_12 : decode fX4_gives.2.1 12 = .ok (.if_icmp .ge 116, 3) := by decide +kernel
theorem dX4_gives_15 : decode fX4_gives.2.1 15 = .ok (.aload_n 0, 1) := by decide +kernel
theorem dX4_gives_16 : decode fX4_gives.2.1 16 = .ok (.getfield 16, 3) := by decide +kernel
theorem dX4_gives_19 : decode fX4_gives.2.1 19 = .ok (.iload 4, 2) := by decide +kernel
theorem dX4_gives_21 : decode fX4_gives.2.1 21 = .ok (.iaload, 1) := by decide +kernel
theorem dX4_gives_22 : decode fX4_gives.2.1 22 = .ok (.istore 5, 2) := by decide +kernel
theorem dX4_gives_24 : decode fX4_gives.2.1 24 = .ok (.iload 5, 2) := by decide +kernel
theorem dX4_gives_26 : decode fX4_gives.2.1 26 = .ok (.bipush (-4), 2) := by decide +kernel
theorem dX4_gives_28 : decode fX4_gives.2.1 28 = .ok (.if_icmp .lt 34, 3) := by decide +kernel
theorem dX4_gives_31 : decode fX4_gives.2.1 31 = .ok (.iload_n 3, 1) := by decide +kernel
theorem dX4_gives_32 : decode fX4_gives.2.1 32 = .ok (.aload_n 2, 1) := by decide +kernel
theorem dX4_gives_33 : decode fX4_gives.2.1 33 = .ok (.arraylength, 1) := by decide +kernel
theorem dX4_gives_34 : decode fX4_gives.2.1 34 = .ok (.if_icmp .ge 88, 3) := by decide +kernel
theorem dX4_gives_37 : decode fX4_gives.2.1 37 = .ok (.aload_n 2, 1) := by decide +kernel
theorem dX4_gives_38 : decode fX4_gives.2.1 38 = .ok (.iload_n 3, 1) := by decide +kernel
theorem dX4_gives_39 : decode fX4_gives.2.1 39 = .ok (.iload 5, 2) := by decide +kernel
theorem dX4_gives_41 : decode fX4_gives.2.1 41 = .ok (.ifCond .lt 8, 3) := by decide +kernel
theorem dX4_gives_44 : decode fX4_gives.2.1 44 = .ok (.iload 5, 2) := by decide +kernel
theorem dX4_gives_46 : decode fX4_gives.2.1 46 = .ok (.goto 9, 3) := by decide +kernel
theorem dX4_gives_49 : decode fX4_gives.2.1 49 = .ok (.aload_n 1, 1) := by decide +kernel
theorem dX4_gives_50 : decode fX4_gives.2.1 50 = .ok (.iconst (-1), 1) := by decide +kernel
theorem dX4_gives_51 : decode fX4_gives.2.1 51 = .ok (.iload 5, 2) := by decide +kernel
theorem dX4_gives_53 : decode fX4_gives.2.1 53 = .ok (.isub, 1) := by decide +kernel
theorem dX4_gives_54 : decode fX4_gives.2.1 54 = .ok (.iaload, 1) := by decide +kernel
theorem dX4_gives_55 : decode fX4_gives.2.1 55 = .ok (.iastore, 1) := by decide +kernel
theorem dX4_gives_56 : decode fX4_gives.2.1 56 = .ok (.iinc 3 1, 3) := by decide +kernel
theorem dX4_gives_59 : decode fX4_gives.2.1 59 = .ok (.goto 63, 3) := by decide +kernel
theorem dX4_gives_62 : decode fX4_gives.2.1 62 = .ok (.iload 5, 2) := by decide +kernel
theorem dX4_gives_64 : decode fX4_gives.2.1 64 = .ok (.bipush (-33), 2) := by decide +kernel
theorem dX4_gives_66 : decode fX4_gives.2.1 66 = .ok (.if_icmp .ne 29, 3) := by decide +kernel
theorem dX4_gives_69 : decode fX4_gives.2.1 69 = .ok (.iload_n 3, 1) := by decide +kernel
theorem dX4_gives_70 : decode fX4_gives.2.1 70 = .ok (.iconst 1, 1) := by decide +kernel
theorem dX4_gives_71 : decode fX4_gives.2.1 71 = .ok (.if_icmp .lt 51, 3) := by decide +kernel
theorem dX4_gives_74 : decode fX4_gives.2.1 74 = .ok (.aload_n 2, 1) := by decide +kernel
theorem dX4_gives_75 : decode fX4_gives.2.1 75 = .ok (.iload_n 3, 1) := by decide +kernel
theorem dX4_gives_76 : decode fX4_gives.2.1 76 = .ok (.iconst 1, 1) := by decide +kernel
theorem dX4_gives_77 : decode fX4_gives.2.1 77 = .ok (.isub, 1) := by decide +kernel
theorem dX4_gives_78 : decode fX4_gives.2.1 78 = .ok (.aload_n 2, 1) := by decide +kernel
theorem dX4_gives_79 : decode fX4_gives.2.1 79 = .ok (.iload_n 3, 1) := by decide +kernel
theorem dX4_gives_80 : decode fX4_gives.2.1 80 = .ok (.iconst 1, 1) := by decide +kernel
theorem dX4_gives_81 : decode fX4_gives.2.1 81 = .ok (.isub, 1) := by decide +kernel
theorem dX4_gives_82 : decode fX4_gives.2.1 82 = .ok (.iaload, 1) := by decide +kernel
theorem dX4_gives_83 : decode fX4_gives.2.1 83 = .ok (.ifCond .ne 7, 3) := by decide +kernel
theorem dX4_gives_86 : decode fX4_gives.2.1 86 = .ok (.iconst 1, 1) := by decide +kernel
theorem dX4_gives_87 : decode fX4_gives.2.1 87 = .ok (.goto 4, 3) := by decide +kernel
theorem dX4_gives_90 : decode fX4_gives.2.1 90 = .ok (.iconst 0, 1) := by decide +kernel
theorem dX4_gives_91 : decode fX4_gives.2.1 91 = .ok (.iastore, 1) := by decide +kernel
theorem dX4_gives_92 : decode fX4_gives.2.1 92 = .ok (.goto 30, 3) := by decide +kernel
theorem dX4_gives_95 : decode fX4_gives.2.1 95 = .ok (.iload_n 3, 1) := by decide +kernel
theorem dX4_gives_96 : decode fX4_gives.2.1 96 = .ok (.iconst 2, 1) := by decide +kernel
theorem dX4_gives_97 : decode fX4_gives.2.1 97 = .ok (.if_icmp .lt 25, 3) := by decide +kernel
theorem dX4_gives_100 : decode fX4_gives.2.1 100 = .ok (.iinc 3 (-1), 3) := by decide +kernel
theorem dX4_gives_103 : decode fX4_gives.2.1 103 = .ok (.aload_n 2, 1) := by decide +kernel
theorem dX4_gives_104 : decode fX4_gives.2.1 104 = .ok (.iload_n 3, 1) := by decide +kernel
theorem dX4_gives_105 : decode fX4_gives.2.1 105 = .ok (.iconst 1, 1) := by decide +kernel
theorem dX4_gives_106 : decode fX4_gives.2.1 106 = .ok (.isub, 1) := by decide +kernel
theorem dX4_gives_107 : decode fX4_gives.2.1 107 = .ok (.iload 5, 2) := by decide +kernel
theorem dX4_gives_109 : decode fX4_gives.2.1 109 = .ok (.ineg, 1) := by decide +kernel
theorem dX4_gives_110 : decode fX4_gives.2.1 110 = .ok (.aload_n 2, 1) := by decide +kernel
theorem dX4_gives_111 : decode fX4_gives.2.1 111 = .ok (.iload_n 3, 1) := by decide +kernel
theorem dX4_gives_112 : decode fX4_gives.2.1 112 = .ok (.iconst 1, 1) := by decide +kernel
theorem dX4_gives_113 : decode fX4_gives.2.1 113 = .ok (.isub, 1) := by decide +kernel
theorem dX4_gives_114 : decode fX4_gives.2.1 114 = .ok (.iaload, 1) := by decide +kernel
theorem dX4_gives_115 : decode fX4_gives.2.1 115 = .ok (.aload_n 2, 1) := by decide +kernel
theorem dX4_gives_116 : decode fX4_gives.2.1 116 = .ok (.iload_n 3, 1) := by decide +kernel
theorem dX4_gives_117 : decode fX4_gives.2.1 117 = .ok (.iaload, 1) := by decide +kernel
theorem dX4_gives_118 : decode fX4_gives.2.1 118 = .ok (.invokestatic 26, 3) := by decide +kernel
theorem dX4_gives_121 : decode fX4_gives.2.1 121 = .ok (.iastore, 1) := by decide +kernel
theorem dX4_gives_122 : decode fX4_gives.2.1 122 = .ok (.iinc 4 1, 3) := by decide +kernel
theorem dX4_gives_125 : decode fX4_gives.2.1 125 = .ok (.goto (-120), 3) := by decide +kernel
theorem dX4_gives_128 : decode fX4_gives.2.1 128 = .ok (.aload_n 2, 1) := by decide +kernel
theorem dX4_gives_129 : decode fX4_gives.2.1 129 = .ok (.iconst 0, 1) := by decide +kernel
theorem dX4_gives_130 : decode fX4_gives.2.1 130 = .ok (.iaload, 1) := by decide +kernel
theorem dX4_gives_131 : decode fX4_gives.2.1 131 = .ok (.ireturn, 1) := by decide +kernel
set_option maxRecDepth 100000 in
set_option maxHeartbeats 4000000 in
theorem ok_X4_gives {X : Xb} {S : Sg} {mi : Mem} {p nq pq len : Nat} (hp : Kd S p 4 0) (hr : S.2.2 p 2 = some (p + 1)) (hs : Kd S (p + 1) 8 len) (hl : len < 2 ^ 31) (hn : Kd S nq 8 4) (hq : Kd S pq 8 96) (h1 : p + 1 ≠ pq) (h2 : nq ≠ pq) : OkI 1 fX4_gives X [rf X p, rf X nq, rf X pq] S mi ((gRun (mi nq) (mi (p + 1)) (mi pq) len).2 0) (m_row mi pq (gRun (mi nq) (mi (p + 1)) (mi pq) len).2) := by
  refine Ok.go [some (rf X p), some (rf X nq), some (rf X pq), none, none, none] (by decide) (by simp [Value.category]) (Nat.le_of_ble_eq_true rfl) rfl ?_
  have lp := mw_dn (P := fun k => MW X fX4_gives (rmOf 1 0 0) 0 0 5 [some (rf X p), some (rf X nq), some (rf X pq), some (.int (nI (gRun (mi nq) (mi (p + 1)) (mi pq) k).1)), some (.int (nI k)), none] [] S (m_row mi pq (gRun (mi nq) (mi (p + 1)) (mi pq) k).2) (mQ X 0 0 (pI ((gRun (mi nq) (mi (p + 1)) (mi pq) len).2 0) S (m_row mi pq (gRun (mi nq) (mi (p + 1)) (mi pq) len).2)))) len (by
    refine mw_iload dX4_gives_5 rfl ?_
    refine mw_aload_n dX4_gives_7 rfl ?_
    refine mw_getr dX4_gives_8 fl_X4_16 rfl (by assumption) (by assumption) ?_
    refine mw_alen dX4_gives_11 (by assumption) rfl ?_
    refine mw_icmp_ge (tgt := 128) dX4_gives_12 (by decide) (fun h12 => ?_) (fun h12 => ?_)
    · skip
      refine mw_aload_n dX4_gives_128 rfl ?_
      refine mw_iconst (v := 0) dX4_gives_129 (by decide) ?_
      refine mw_ialdK (k := 0) dX4_gives_130 (by assumption) (rfl) (by decide) (by decide) ?_
      exact mw_iret dX4_gives_131 rfl (by decide) (by decide) (⟨by rw [m_row_self], rfl, rfl⟩)
    · skip
      exact absurd (Int32.le_refl _) h12) (fun k hk ih => by
    have hle := gRun_le (mi nq) (mi (p + 1)) (mi pq) k
    have hrun : gRun (mi nq) (mi (p + 1)) (mi pq) (k + 1) = gStep (mi nq) (gRun (mi nq) (mi (p + 1)) (mi pq) k) (mi (p + 1) k) := rfl
    rw [hrun] at ih
    generalize gRun (mi nq) (mi (p + 1)) (mi pq) k = g at ih hle ⊢
    obtain ⟨h, f⟩ := g
    generalize hx : mi (p + 1) k = x at ih
    simp only at ih hle ⊢
    have q1 := nI_lt1 (h := h) (by omega) 1 (by decide)
    have q2 := nI_lt1 (h := h) (by omega) 2 (by decide)
    have q9 : Int32.ofNat 96 ≤ nI h ↔ 96 ≤ h := nI_leI (by decide) (by omega)
    refine mw_iload dX4_gives_5 rfl ?_
    refine mw_aload_n dX4_gives_7 rfl ?_
    refine mw_getr dX4_gives_8 fl_X4_16 rfl (by assumption) (by assumption) ?_
    refine mw_alen dX4_gives_11 (by assumption) rfl ?_
    refine mw_icmp_ge (tgt := 128) dX4_gives_12 (by decide) (fun h12 => ?_) (fun h12 => ?_)
    · skip
      exact absurd h12 (nI_ge hk hl)
    · skip
      refine mw_aload_n dX4_gives_15 rfl ?_
      refine mw_getr dX4_gives_16 fl_X4_16 rfl (by assumption) (by assumption) ?_
      refine mw_iload dX4_gives_19 rfl ?_
      refine mw_ialdK (k := k) dX4_gives_21 (by assumption) (rfl) (hk) (hl) ?_
      rw [m_row_ne h1, hx]
      refine mw_istore dX4_gives_22 (by decide) ?_
      refine mw_iload dX4_gives_24 rfl ?_
      refine mw_bipush (v := (-4)) dX4_gives_26 (by decide) ?_
      refine mw_icmp_lt (tgt := 62) dX4_gives_28 (by decide) (fun h28 => ?_) (fun h28 => ?_)
      · skip
        refine mw_iload dX4_gives_62 rfl ?_
        refine mw_bipush (v := (-33)) dX4_gives_64 (by decide) ?_
        refine mw_icmp_ne (tgt := 95) dX4_gives_66 (by decide) (fun h66 => ?_) (fun h66 => ?_)
        · skip
          refine mw_iload_n dX4_gives_95 rfl ?_
          refine mw_iconst (v := 2) dX4_gives_96 (by decide) ?_
          refine mw_icmp_lt (tgt := 122) dX4_gives_97 (by decide) (fun h97 => ?_) (fun h97 => ?_)
          · skip
            refine mw_iincK (k := k) dX4_gives_122 rfl rfl (by decide) ?_
            refine mw_goto (tgt := 5) dX4_gives_125 (by decide) ?_
            refine MW.back ih ?_
            try rw [show (1 : Int32) = nI 1 from rfl, q1] at h71
            try rw [show (2 : Int32) = nI 2 from rfl, q2] at h97
            try rw [q9] at h34
            simp [lsub, gStep, m_up_mrow, *] <;> grind
          · skip
            have hh : 2 ≤ h := Nat.not_lt.mp fun q => h97 (nI_lt (b := 2) q (by decide))
            have e1 : nI h + Int32.ofInt (-1) = nI (h - 1) := nI_dec (by omega)
            refine mw_iinc dX4_gives_100 rfl (by decide) e1 ?_
            refine mw_aload_n dX4_gives_103 rfl ?_
            refine mw_iload_n dX4_gives_104 rfl ?_
            refine mw_iconst (v := 1) dX4_gives_105 (by decide) ?_
            refine mw_isub dX4_gives_106 ?_
            refine mw_iload dX4_gives_107 rfl ?_
            refine mw_ineg dX4_gives_109 ?_
            refine mw_aload_n dX4_gives_110 rfl ?_
            refine mw_iload_n dX4_gives_111 rfl ?_
            refine mw_iconst (v := 1) dX4_gives_112 (by decide) ?_
            refine mw_isub dX4_gives_113 ?_
            refine mw_ialdK (k := h - 2) dX4_gives_114 (by assumption) (by rw [nI_sub1 (by omega)]; rfl) (by omega) (by decide) ?_
            rw [m_row_self]
            refine mw_aload_n dX4_gives_115 rfl ?_
            refine mw_iload_n dX4_gives_116 rfl ?_
            refine mw_ialdK (k := h - 1) dX4_gives_117 (by assumption) (rfl) (by omega) (by decide) ?_
            rw [m_row_self]
            refine mw_cSI (g := fX4_joined) dX4_gives_118 ml_X4_26 mfX4_joined (ok_X4_joined) rfl rfl (Nat.le_of_ble_eq_true rfl) ⟨by decide, by decide⟩ ⟨by decide, by decide⟩ ?_
            refine mw_iastK (k := h - 2) dX4_gives_121 (by assumption) (by rw [nI_sub1 (by omega)]; rfl) (by omega) (by decide) ?_
            refine mw_iincK (k := k) dX4_gives_122 rfl rfl (by decide) ?_
            refine mw_goto (tgt := 5) dX4_gives_125 (by decide) ?_
            refine MW.back ih ?_
            try rw [show (1 : Int32) = nI 1 from rfl, q1] at h71
            try rw [show (2 : Int32) = nI 2 from rfl, q2] at h97
            try rw [q9] at h34
            simp [lsub, gStep, m_up_mrow, *] <;> grind
        · skip
          refine mw_iload_n dX4_gives_69 rfl ?_
          refine mw_iconst (v := 1) dX4_gives_70 (by decide) ?_
          refine mw_icmp_lt (tgt := 122) dX4_gives_71 (by decide) (fun h71 => ?_) (fun h71 => ?_)
          · skip
            refine mw_iincK (k := k) dX4_gives_122 rfl rfl (by decide) ?_
            refine mw_goto (tgt := 5) dX4_gives_125 (by decide) ?_
            refine MW.back ih ?_
            try rw [show (1 : Int32) = nI 1 from rfl, q1] at h71
            try rw [show (2 : Int32) = nI 2 from rfl, q2] at h97
            try rw [q9] at h34
            simp [lsub, gStep, m_up_mrow, *] <;> grind
          · skip
            have hh : 1 ≤ h := Nat.not_lt.mp fun q => h71 (nI_lt (b := 1) q (by decide))
            refine mw_aload_n dX4_gives_74 rfl ?_
            refine mw_iload_n dX4_gives_75 rfl ?_
            refine mw_iconst (v := 1) dX4_gives_76 (by decide) ?_
            refine mw_isub dX4_gives_77 ?_
            refine mw_aload_n dX4_gives_78 rfl ?_
            refine mw_iload_n dX4_gives_79 rfl ?_
            refine mw_iconst (v := 1) dX4_gives_80 (by decide) ?_
            refine mw_isub dX4_gives_81 ?_
            refine mw_ialdK (k := h - 1) dX4_gives_82 (by assumption) (nI_sub1 hh) (by omega) (by decide) ?_
            rw [m_row_self]
            refine mw_if_ne (tgt := 90) dX4_gives_83 (by decide) (fun h83 => ?_) (fun h83 => ?_)
            · skip
              refine mw_iconst (v := 0) dX4_gives_90 (by decide) ?_
              refine mw_iastK (k := h - 1) dX4_gives_91 (by assumption) (nI_sub1 hh) (by omega) (by decide) ?_
              refine mw_goto (tgt := 122) dX4_gives_92 (by decide) ?_
              refine mw_iincK (k := k) dX4_gives_122 rfl rfl (by decide) ?_
              refine mw_goto (tgt := 5) dX4_gives_125 (by decide) ?_
              refine MW.back ih ?_
              try rw [show (1 : Int32) = nI 1 from rfl, q1] at h71
              try rw [show (2 : Int32) = nI 2 from rfl, q2] at h97
              try rw [q9] at h34
              simp [lsub, gStep, m_up_mrow, *] <;> grind
            · skip
              refine mw_iconst (v := 1) dX4_gives_86 (by decide) ?_
              refine mw_goto (tgt := 91) dX4_gives_87 (by decide) ?_
              refine mw_iastK (k := h - 1) dX4_gives_91 (by assumption) (nI_sub1 hh) (by omega) (by decide) ?_
              refine mw_goto (tgt := 122) dX4_gives_92 (by decide) ?_
              refine mw_iincK (k := k) dX4_gives_122 rfl rfl (by decide) ?_
              refine mw_goto (tgt := 5) dX4_gives_125 (by decide) ?_
              refine MW.back ih ?_
              try rw [show (1 : Int32) = nI 1 from rfl, q1] at h71
              try rw [show (2 : Int32) = nI 2 from rfl, q2] at h97
              try rw [q9] at h34
              simp [lsub, gStep, m_up_mrow, *] <;> grind
      · skip
        refine mw_iload_n dX4_gives_31 rfl ?_
        refine mw_aload_n dX4_gives_32 rfl ?_
        refine mw_alen dX4_gives_33 (by assumption) rfl ?_
        refine mw_icmp_ge (tgt := 122) dX4_gives_34 (by decide) (fun h34 => ?_) (fun h34 => ?_)
        · skip
          refine mw_iincK (k := k) dX4_gives_122 rfl rfl (by decide) ?_
          refine mw_goto (tgt := 5) dX4_gives_125 (by decide) ?_
          refine MW.back ih ?_
          try rw [show (1 : Int32) = nI 1 from rfl, q1] at h71
          try rw [show (2 : Int32) = nI 2 from rfl, q2] at h97
          try rw [q9] at h34
          simp [lsub, gStep, m_up_mrow, *] <;> grind
        · skip
          have hh : h < 96 := Nat.not_le.mp fun q => h34 (nI_le q (by omega))
          refine mw_aload_n dX4_gives_37 rfl ?_
          refine mw_iload_n dX4_gives_38 rfl ?_
          refine mw_iload dX4_gives_39 rfl ?_
          refine mw_if_lt (tgt := 49) dX4_gives_41 (by decide) (fun h41 => ?_) (fun h41 => ?_)
          · skip
            have hix := nmIx h28 h41
            refine mw_aload_n dX4_gives_49 rfl ?_
            refine mw_iconst (v := (-1)) dX4_gives_50 (by decide) ?_
            refine mw_iload dX4_gives_51 rfl ?_
            refine mw_isub dX4_gives_53 ?_
            refine mw_iald dX4_gives_54 hn hix ?_
            rw [m_row_ne h2]
            refine mw_iastK (k := h) dX4_gives_55 (by assumption) (rfl) (hh) (by decide) ?_
            refine mw_iincK (k := h) dX4_gives_56 rfl rfl (by decide) ?_
            refine mw_goto (tgt := 122) dX4_gives_59 (by decide) ?_
            refine mw_iincK (k := k) dX4_gives_122 rfl rfl (by decide) ?_
            refine mw_goto (tgt := 5) dX4_gives_125 (by decide) ?_
            refine MW.back ih ?_
            try rw [show (1 : Int32) = nI 1 from rfl, q1] at h71
            try rw [show (2 : Int32) = nI 2 from rfl, q2] at h97
            try rw [q9] at h34
            simp [lsub, gStep, m_up_mrow, *] <;> grind
          · skip
            refine mw_iload dX4_gives_44 rfl ?_
            refine mw_goto (tgt := 55) dX4_gives_46 (by decide) ?_
            refine mw_iastK (k := h) dX4_gives_55 (by assumption) (rfl) (hh) (by decide) ?_
            refine mw_iincK (k := h) dX4_gives_56 rfl rfl (by decide) ?_
            refine mw_goto (tgt := 122) dX4_gives_59 (by decide) ?_
            refine mw_iincK (k := k) dX4_gives_122 rfl rfl (by decide) ?_
            refine mw_goto (tgt := 5) dX4_gives_125 (by decide) ?_
            refine MW.back ih ?_
            try rw [show (1 : Int32) = nI 1 from rfl, q1] at h71
            try rw [show (2 : Int32) = nI 2 from rfl, q2] at h97
            try rw [q9] at h34
            simp [lsub, gStep, m_up_mrow, *] <;> grind)
  refine mw_iconst (v := 0) dX4_gives_0 (by decide) ?_
  refine mw_istN 3 dX4_gives_1 rfl (by decide) ?_
  refine mw_iconst (v := 0) dX4_gives_2 (by decide) ?_
  refine mw_istore dX4_gives_3 (by decide) ?_
  refine MW.back lp ⟨by simp [lsub, nI_0, gRun], rfl, rfl, ?_⟩
  simp only [gRun, m_row_id]
end
section
/-! Town: rent -/
def jb1 (x : Int32) : Int32 := x - (jus x 1 &&& 1431655765)
def jb2 (x : Int32) : Int32 := (x &&& 858993459) + (jus x 2 &&& 858993459)
def jb3 (x : Int32) : Int32 := (x + jus x 4) &&& 252645135
def jb4 (x : Int32) : Int32 := x + jus x 8
def jb5 (x : Int32) : Int32 := x + jus x 16
def jBits (x : Int32) : Int32 := jb5 (jb4 (jb3 (jb2 (jb1 x)))) &&& 63
theorem dJ6_bitCount_0f7a4_0 : decode fJ6_bitCount_0f7a4.2.1 0 = .ok (.iload_n 0, 1) := by decide +kernel
theorem dJ6_bitCount_0f7a4_1 : decode fJ6_bitCount_0f7a4.2.1 1 = .ok (.iload_n 0, 1) := by decide +kernel
theorem dJ6_bitCount_0f7a4_2 : decode fJ6_bitCount_0f7a4.2.1 2 = .ok (.iconst 1, 1) := by decide +kernel
theorem dJ6_bitCount_0f7a4_3 : decode fJ6_bitCount_0f7a4.2.1 3 = .ok (.iushr, 1) := by decide +kernel
theorem dJ6_bitCount_0f7a4_4 : decode fJ6_bitCount_0f7a4.2.1 4 = .ok (.ldc_w 265, 3) := by decide +kernel
theorem dJ6_bitCount_0f7a4_7 : decode fJ6_bitCount_0f7a4.2.1 7 = .ok (.iand, 1) := by decide +kernel
theorem dJ6_bitCount_0f7a4_8 : decode fJ6_bitCount_0f7a4.2.1 8 = .ok (.isub, 1) := by decide +kernel
theorem dJ6_bitCount_0f7a4_9 : decode fJ6_bitCount_0f7a4.2.1 9 = .ok (.istore_n 0, 1) := by decide +kernel
theorem dJ6_bitCount_0f7a4_10 : decode fJ6_bitCount_0f7a4.2.1 10 = .ok (.iload_n 0, 1) := by decide +kernel
theorem dJ6_bitCount_0f7a4_11 : decode fJ6_bitCount_0f7a4.2.1 11 = .ok (.ldc_w 266, 3) := by decide +kernel
theorem dJ6_bitCount_0f7a4_14 : decode fJ6_bitCount_0f7a4.2.1 14 = .ok (.iand, 1) := by decide +kernel
theorem dJ6_bitCount_0f7a4_15 : decode fJ6_bitCount_0f7a4.2.1 15 = .ok (.iload_n 0, 1) := by decide +kernel
theorem dJ6_bitCount_0f7a4_16 : decode fJ6_bitCount_0f7a4.2.1 16 = .ok (.iconst 2, 1) := by decide +kernel
theorem dJ6_bitCount_0f7a4_17 : decode fJ6_bitCount_0f7a4.2.1 17 = .ok (.iushr, 1) := by decide +kernel
theorem dJ6_bitCount_0f7a4_18 : decode fJ6_bitCount_0f7a4.2.1 18 = .ok (.ldc_w 266, 3) := by decide +kernel
theorem dJ6_bitCount_0f7a4_21 : decode fJ6_bitCount_0f7a4.2.1 21 = .ok (.iand, 1) := by decide +kernel
theorem dJ6_bitCount_0f7a4_22 : decode fJ6_bitCount_0f7a4.2.1 22 = .ok (.iadd, 1) := by decide +kernel
theorem dJ6_bitCount_0f7a4_23 : decode fJ6_bitCount_0f7a4.2.1 23 = .ok (.istore_n 0, 1) := by decide +kernel
theorem dJ6_bitCount_0f7a4_24 : decode fJ6_bitCount_0f7a4.2.1 24 = .ok (.iload_n 0, 1) := by decide +kernel
theorem dJ6_bitCount_0f7a4_25 : decode fJ6_bitCount_0f7a4.2.1 25 = .ok (.iload_n 0, 1) := by decide +kernel
theorem dJ6_bitCount_0f7a4_26 : decode fJ6_bitCount_0f7a4.2.1 26 = .ok (.iconst 4, 1) := by decide +kernel
theorem dJ6_bitCount_0f7a4_27 : decode fJ6_bitCount_0f7a4.2.1 27 = .ok (.iushr, 1) := by decide +kernel
theorem dJ6_bitCount_0f7a4_28 : decode fJ6_bitCount_0f7a4.2.1 28 = .ok (.iadd, 1) := by decide +kernel
theorem dJ6_bitCount_0f7a4_29 : decode fJ6_bitCount_0f7a4.2.1 29 = .ok (.ldc_w 267, 3) := by decide +kernel
theorem dJ6_bitCount_0f7a4_32 : decode fJ6_bitCount_0f7a4.2.1 32 = .ok (.iand, 1) := by decide +kernel
theorem dJ6_bitCount_0f7a4_33 : decode fJ6_bitCount_0f7a4.2.1 33 = .ok (.istore_n 0, 1) := by decide +kernel
theorem dJ6_bitCount_0f7a4_34 : decode fJ6_bitCount_0f7a4.2.1 34 = .ok (.iload_n 0, 1) := by decide +kernel
theorem dJ6_bitCount_0f7a4_35 : decode fJ6_bitCount_0f7a4.2.1 35 = .ok (.iload_n 0, 1) := by decide +kernel
theorem dJ6_bitCount_0f7a4_36 : decode fJ6_bitCount_0f7a4.2.1 36 = .ok (.bipush 8, 2) := by decide +kernel
theorem dJ6_bitCount_0f7a4_38 : decode fJ6_bitCount_0f7a4.2.1 38 = .ok (.iushr, 1) := by decide +kernel
theorem dJ6_bitCount_0f7a4_39 : decode fJ6_bitCount_0f7a4.2.1 39 = .ok (.iadd, 1) := by decide +kernel
theorem dJ6_bitCount_0f7a4_40 : decode fJ6_bitCount_0f7a4.2.1 40 = .ok (.istore_n 0, 1) := by decide +kernel
theorem dJ6_bitCount_0f7a4_41 : decode fJ6_bitCount_0f7a4.2.1 41 = .ok (.iload_n 0, 1) := by decide +kernel
theorem dJ6_bitCount_0f7a4_42 : decode fJ6_bitCount_0f7a4.2.1 42 = .ok (.iload_n 0, 1) := by decide +kernel
theorem dJ6_bitCount_0f7a4_43 : decode fJ6_bitCount_0f7a4.2.1 43 = .ok (.bipush 16, 2) := by decide +kernel
theorem dJ6_bitCount_0f7a4_45 : decode fJ6_bitCount_0f7a4.2.1 45 = .ok (.iushr, 1) := by decide +kernel
theorem dJ6_bitCount_0f7a4_46 : decode fJ6_bitCount_0f7a4.2.1 46 = .ok (.iadd, 1) := by decide +kernel
theorem dJ6_bitCount_0f7a4_47 : decode fJ6_bitCount_0f7a4.2.1 47 = .ok (.istore_n 0, 1) := by decide +kernel
theorem dJ6_bitCount_0f7a4_48 : decode fJ6_bitCount_0f7a4.2.1 48 = .ok (.iload_n 0, 1) := by decide +kernel
theorem dJ6_bitCount_0f7a4_49 : decode fJ6_bitCount_0f7a4.2.1 49 = .ok (.bipush 63, 2) := by decide +kernel
theorem dJ6_bitCount_0f7a4_51 : decode fJ6_bitCount_0f7a4.2.1 51 = .ok (.iand, 1) := by decide +kernel
theorem dJ6_bitCount_0f7a4_52 : decode fJ6_bitCount_0f7a4.2.1 52 = .ok (.ireturn, 1) := by decide +kernel
set_option maxRecDepth 100000 in
set_option maxHeartbeats 4000000 in
theorem ok_J6_bitCount_0f7a4 {X : Xb} {S : Sg} {mi : Mem} {x : Int32} : OkI 0 fJ6_bitCount_0f7a4 X [.int x] S mi (jBits x) mi := by
  refine Ok.go [some (.int x)] (by decide) (by simp [Value.category]) (Nat.le_of_ble_eq_true rfl) rfl ?_
  refine mw_iload_n dJ6_bitCount_0f7a4_0 rfl ?_
  refine mw_iload_n dJ6_bitCount_0f7a4_1 rfl ?_
  refine mw_iconst (v := 1) dJ6_bitCount_0f7a4_2 (by decide) ?_
  refine mw_iushr dJ6_bitCount_0f7a4_3 ?_
  refine mw_ldcw dJ6_bitCount_0f7a4_4 cn_J6_265 ?_
  refine mw_iand dJ6_bitCount_0f7a4_7 ?_
  refine mw_isub dJ6_bitCount_0f7a4_8 ?_
  refine mw_istN 0 dJ6_bitCount_0f7a4_9 rfl (by decide) ?_
  refine mw_iload_n dJ6_bitCount_0f7a4_10 rfl ?_
  refine mw_ldcw dJ6_bitCount_0f7a4_11 cn_J6_266 ?_
  refine mw_iand dJ6_bitCount_0f7a4_14 ?_
  refine mw_iload_n dJ6_bitCount_0f7a4_15 rfl ?_
  refine mw_iconst (v := 2) dJ6_bitCount_0f7a4_16 (by decide) ?_
  refine mw_iushr dJ6_bitCount_0f7a4_17 ?_
  refine mw_ldcw dJ6_bitCount_0f7a4_18 cn_J6_266 ?_
  refine mw_iand dJ6_bitCount_0f7a4_21 ?_
  refine mw_iadd dJ6_bitCount_0f7a4_22 ?_
  refine mw_istN 0 dJ6_bitCount_0f7a4_23 rfl (by decide) ?_
  refine mw_iload_n dJ6_bitCount_0f7a4_24 rfl ?_
  refine mw_iload_n dJ6_bitCount_0f7a4_25 rfl ?_
  refine mw_iconst (v := 4) dJ6_bitCount_0f7a4_26 (by decide) ?_
  refine mw_iushr dJ6_bitCount_0f7a4_27 ?_
  refine mw_iadd dJ6_bitCount_0f7a4_28 ?_
  refine mw_ldcw dJ6_bitCount_0f7a4_29 cn_J6_267 ?_
  refine mw_iand dJ6_bitCount_0f7a4_32 ?_
  refine mw_istN 0 dJ6_bitCount_0f7a4_33 rfl (by decide) ?_
  refine mw_iload_n dJ6_bitCount_0f7a4_34 rfl ?_
  refine mw_iload_n dJ6_bitCount_0f7a4_35 rfl ?_
  refine mw_bipush (v := 8) dJ6_bitCount_0f7a4_36 (by decide) ?_
  refine mw_iushr dJ6_bitCount_0f7a4_38 ?_
  refine mw_iadd dJ6_bitCount_0f7a4_39 ?_
  refine mw_istN 0 dJ6_bitCount_0f7a4_40 rfl (by decide) ?_
  refine mw_iload_n dJ6_bitCount_0f7a4_41 rfl ?_
  refine mw_iload_n dJ6_bitCount_0f7a4_42 rfl ?_
  refine mw_bipush (v := 16) dJ6_bitCount_0f7a4_43 (by decide) ?_
  refine mw_iushr dJ6_bitCount_0f7a4_45 ?_
  refine mw_iadd dJ6_bitCount_0f7a4_46 ?_
  refine mw_istN 0 dJ6_bitCount_0f7a4_47 rfl (by decide) ?_
  refine mw_iload_n dJ6_bitCount_0f7a4_48 rfl ?_
  refine mw_bipush (v := 63) dJ6_bitCount_0f7a4_49 (by decide) ?_
  refine mw_iand dJ6_bitCount_0f7a4_51 ?_
  exact mw_iret dJ6_bitCount_0f7a4_52 rfl (by decide) (by decide) (⟨rfl, rfl, rfl⟩)
theorem Kd_ne {S : Sg} {a b c c' z z' : Nat} (h : Kd S a c z) (h' : Kd S b c' z') (hc : c ≠ c') : a ≠ b := fun e => by
  subst e
  have := h.2.symm.trans h'.2
  exact hc (congrArg Prod.fst this)
def TxA (S : Sg) (p len : Nat) : Prop := Kd S p 4 0 ∧ S.2.2 p 2 = some (p + 1) ∧ Kd S (p + 1) 8 len ∧ len < 97
def txOf (S : Sg) (mi : Mem) (t j : Nat) : Option Nat := if 0 ≤ mi (t + 5) j ∧ mi (t + 5) j ≤ 13 then S.2.2 (t + 4) (mi (t + 5) j).toNatClampNeg else none
theorem in13 {x : Int32} (h : 0 ≤ x ∧ x ≤ 13) : vp_in x 14 := by
  rw [vp_in_iff]
  have e1 := Int32.le_iff_toInt_le.mp h.1
  have e2 := Int32.le_iff_toInt_le.mp h.2
  have c1 : (0 : Int32).toInt = 0 := by decide
  have c2 : (13 : Int32).toInt = 13 := by decide
  rw [c1] at e1; rw [c2] at e2
  omega
theorem va_rf_c (o : Option Nat) : va_rf o = .null ∨ ∃ a, va_rf o = .ref a := by cases o <;> simp [va_rf]
theorem dX5_textFor_0 : decode fX5_textFor.2.1 0 = .ok (.aload_n 0, 1) := by decide +kernel
theorem dX5_textFor_1 : decode fX5_textFor.2.1 1 = .ok (.getfield 40, 3) := by decide +kernel
theorem dX5_textFor_4 : decode fX5_textFor.2.1 4 = .ok (.iload_n 1, 1) := by decide +kernel
theorem dX5_textFor_5 : decode fX5_textFor.2.1 5 = .ok (.iaload, 1) := by decide +kernel
theorem dX5_textFor_6 : decode fX5_textFor.2.1 6 = .ok (.istore_n 2, 1) := by decide +kernel
theorem dX5_textFor_7 : decode fX5_textFor.2.1 7 = .ok (.iload_n 2, 1) := by decide +kernel
theorem dX5_textFor_8 : decode fX5_textFor.2.1 8 = .ok (.iconst 0, 1) := by decide +kernel
theorem dX5_textFor_9 : decode fX5_textFor.2.1 9 = .ok (.bipush 13, 2) := by decide +kernel
theorem dX5_textFor_11 : decode fX5_textFor.2.1 11 = .ok (.invokestatic 113, 3) := by decide +kernel
theorem dX5_textFor_14 : decode fX5_textFor.2.1 14 = .ok (.ifCond .eq 12, 3) := by decide +kernel
theorem dX5_textFor_17 : decode fX5_textFor.2.1 17 = .ok (.aload_n 0, 1) := by decide +kernel
theorem dX5_textFor_18 : decode fX5_textFor.2.1 18 = .ok (.getfield 36, 3) := by decide +kernel
theorem dX5_textFor_21 : decode fX5_textFor.2.1 21 = .ok (.iload_n 2, 1) := by decide +kernel
theorem dX5_textFor_22 : decode fX5_textFor.2.1 22 = .ok (.aaload, 1) := by decide +kernel
theorem dX5_textFor_23 : decode fX5_textFor.2.1 23 = .ok (.goto 4, 3) := by decide +kernel
theorem dX5_textFor_26 : decode fX5_textFor.2.1 26 = .ok (.aconst_null, 1) := by decide +kernel
theorem dX5_textFor_27 : decode fX5_textFor.2.1 27 = .ok (.areturn, 1) := by decide +kernel
set_option maxRecDepth 100000 in
set_option maxHeartbeats 4000000 in
theorem ok_X5_textFor {X : Xb} {S : Sg} {mi : Mem} {t j : Nat} (hT : TwA S t) (hj : j < 3) : Ok 1 0 0 fX5_textFor X [rf X t, .int (nI j)] S mi (fun r S' mi' => r = some (va_rf ((txOf S mi t j).map (X.1 + ·))) ∧ S' = S ∧ mi' = mi) := by
  refine Ok.go [some (rf X t), some (.int (nI j)), none] (by decide) (by simp [Value.category]) (Nat.le_of_ble_eq_true rfl) rfl ?_
  obtain ⟨k_t, ⟨r_t_home, k_t_home⟩, ⟨r_t_price, k_t_price⟩, ⟨r_t_attics, k_t_attics⟩, ⟨r_t_texts, k_t_texts⟩, ⟨r_t_counting, k_t_counting⟩, ⟨r_t_names, k_t_names⟩, ⟨r_t_pile, k_t_pile⟩, ⟨r_t_views, k_t_views⟩, a_t⟩ := id hT
  refine mw_aload_n dX5_textFor_0 rfl ?_
  refine mw_getr dX5_textFor_1 fl_X5_40 rfl (by assumption) (by assumption) ?_
  refine mw_iload_n dX5_textFor_4 rfl ?_
  refine mw_ialdK (k := j) dX5_textFor_5 (by assumption) (rfl) (hj) (by decide) ?_
  refine mw_istN 2 dX5_textFor_6 rfl (by decide) ?_
  refine mw_iload_n dX5_textFor_7 rfl ?_
  refine mw_iconst (v := 0) dX5_textFor_8 (by decide) ?_
  refine mw_bipush (v := 13) dX5_textFor_9 (by decide) ?_
  refine mw_cSNI (g := fX6_within) dX5_textFor_11 nl_X5_113 mfX6_within (ok_X6_within) rfl rfl (Nat.le_of_ble_eq_true rfl) ⟨by decide, by decide⟩ ⟨by decide, by decide⟩ ?_
  refine mw_if_eqB (tgt := 26) dX5_textFor_14 (by decide) (fun h14 => ?_) (fun h14 => ?_)
  · skip
    refine mw_null dX5_textFor_26 ?_
    exact mw_aret dX5_textFor_27 rfl (by simp) (by simp) (by decide) (by decide) (⟨by simp [txOf, h14, va_rf], rfl, rfl⟩)
  · skip
    refine mw_aload_n dX5_textFor_17 rfl ?_
    refine mw_getr dX5_textFor_18 fl_X5_36 rfl (by assumption) (by assumption) ?_
    refine mw_iload_n dX5_textFor_21 rfl ?_
    refine mw_aldv dX5_textFor_22 (by assumption) (by decide) (in13 h14) ?_
    refine mw_goto (tgt := 27) dX5_textFor_23 (by decide) ?_
    exact mw_aret dX5_textFor_27 rfl (by simp) (va_rf_c _) (by decide) (by decide) ⟨by simp [txOf, h14], rfl, rfl⟩ --end
/-- only the town's scratch rows may differ -/
def Scr (t : Nat) (mi mi' : Mem) : Prop := ∀ a, a ≠ t + 6 → a ≠ t + 7 → mi' a = mi a
theorem Scr.rf (t : Nat) (mi : Mem) : Scr t mi mi := fun _ _ _ => rfl
theorem Scr.tr {t : Nat} {a b c : Mem} (h : Scr t a b) (k : Scr t b c) : Scr t a c := fun x h1 h2 => (k x h1 h2).trans (h x h1 h2)
def cPrices (price : Nat → Int32) (seen : Int32) : Int32 := fld (fun s k => s + (seen >>> (nI k &&& 31) &&& 1) * price k) 0 8
def c4 (a b c d : Int32) : Nat → Int32 := fun j => if j = 3 then d else if j = 2 then c else if j = 1 then b else a
/-- the plain rent, out of the scratch rows' contents -/
def cPlain (S : Sg) (mi : Mem) (t q : Nat) (seen : Int32) (nm0 pile : Nat → Int32) : Int32 := match txOf S mi t 0 with
  | none => cPrices (mi (t + 2)) seen
  | some p => maxI 0 (minI 9999 ((gRun (upd (upd (upd (upd nm0 0 (cPrices (mi (t + 2)) seen)) 1 (jBits seen)) 2 (mi t 10)) 3 (sWide (mi t 10) (mi q 0) (mi q 2))) (mi (p + 1)) pile (S.2.1 (p + 1)).2).2 0))
theorem dX5_plainRentOf_0 : decode fX5_plainRentOf.2.1 0 = .ok (.iconst 0, 1) := by decide +kernel
theorem dX5_plainRentOf_1 : decode fX5_plainRentOf.2.1 1 = .ok (.istore_n 3, 1) := by decide +kernel
theorem dX5_plainRentOf_2 : decode fX5_plainRentOf.2.1 2 = .ok (.iconst 0, 1) := by decide +kernel
theorem dX5_plainRentOf_3 : decode fX5_plainRentOf.2.1 3 = .ok (.istore 4, 2) := by decide +kernel
theorem dX5_plainRentOf_5 : decode fX5_plainRentOf.2.1 5 = .ok (.iload 4, 2) := by decide +kernel
theorem dX5_plainRentOf_7 : decode fX5_plainRentOf.2.1 7 = .ok (.bipush 8, 2) := by decide +kernel
theorem dX5_plainRentOf_9 : decode fX5_plainRentOf.2.1 9 = .ok (.if_icmp .ge 26, 3) := by decide +kernel
theorem dX5_plainRentOf_12 : decode fX5_plainRentOf.2.1 12 = .ok (.iload_n 3, 1) := by decide +kernel
theorem dX5_plainRentOf_13 : decode fX5_plainRentOf.2.1 13 = .ok (.iload_n 2, 1) := by decide +kernel
theorem dX5_plainRentOf_14 : decode fX5_plainRentOf.2.1 14 = .ok (.iload 4, 2) := by decide +kernel
theorem dX5_plainRentOf_16 : decode fX5_plainRentOf.2.1 16 = .ok (.ishr, 1) := by decide +kernel
theorem dX5_plainRentOf_17 : decode fX5_plainRentOf.2.1 17 = .ok (.iconst 1, 1) := by decide +kernel
theorem dX5_plainRentOf_18 : decode fX5_plainRentOf.2.1 18 = .ok (.iand, 1) := by decide +kernel
theorem dX5_plainRentOf_19 : decode fX5_plainRentOf.2.1 19 = .ok (.aload_n 0, 1) := by decide +kernel
theorem dX5_plainRentOf_20 : decode fX5_plainRentOf.2.1 20 = .ok (.getfield 15, 3) := by decide +kernel
theorem dX5_plainRentOf_23 : decode fX5_plainRentOf.2.1 23 = .ok (.iload 4, 2) := by decide +kernel
theorem dX5_plainRentOf_25 : decode fX5_plainRentOf.2.1 25 = .ok (.iaload, 1) := by decide +kernel
theorem dX5_plainRentOf_26 : decode fX5_plainRentOf.2.1 26 = .ok (.imul, 1) := by decide +kernel
theorem dX5_plainRentOf_27 : decode fX5_plainRentOf.2.1 27 = .ok (.iadd, 1) := by decide +kernel
theorem dX5_plainRentOf_28 : decode fX5_plainRentOf.2.1 28 = .ok (.istore_n 3, 1) := by decide +kernel
theorem dX5_plainRentOf_29 : decode fX5_plainRentOf.2.1 29 = .ok (.iinc 4 1, 3) := by decide +kernel
theorem dX5_plainRentOf_32 : decode fX5_plainRentOf.2.1 32 = .ok (.goto (-27), 3) := by decide +kernel
theorem dX5_plainRentOf_35 : decode fX5_plainRentOf.2.1 35 = .ok (.aload_n 0, 1) := by decide +kernel
theorem dX5_plainRentOf_36 : decode fX5_plainRentOf.2.1 36 = .ok (.iconst 0, 1) := by decide +kernel
theorem dX5_plainRentOf_37 : decode fX5_plainRentOf.2.1 37 = .ok (.invokevirtual 161, 3) := by decide +kernel
theorem dX5_plainRentOf_40 : decode fX5_plainRentOf.2.1 40 = .ok (.astore 4, 2) := by decide +kernel
theorem dX5_plainRentOf_42 : decode fX5_plainRentOf.2.1 42 = .ok (.aload 4, 2) := by decide +kernel
theorem dX5_plainRentOf_44 : decode fX5_plainRentOf.2.1 44 = .ok (.ifnonnull 5, 3) := by decide +kernel
theorem dX5_plainRentOf_47 : decode fX5_plainRentOf.2.1 47 = .ok (.iload_n 3, 1) := by decide +kernel
theorem dX5_plainRentOf_48 : decode fX5_plainRentOf.2.1 48 = .ok (.ireturn, 1) := by decide +kernel
theorem dX5_plainRentOf_49 : decode fX5_plainRentOf.2.1 49 = .ok (.aload_n 0, 1) := by decide +kernel
theorem dX5_plainRentOf_50 : decode fX5_plainRentOf.2.1 50 = .ok (.getfield 43, 3) := by decide +kernel
theorem dX5_plainRentOf_53 : decode fX5_plainRentOf.2.1 53 = .ok (.iconst 0, 1) := by decide +kernel
theorem dX5_plainRentOf_54 : decode fX5_plainRentOf.2.1 54 = .ok (.iload_n 3, 1) := by decide +kernel
theorem dX5_plainRentOf_55 : decode fX5_plainRentOf.2.1 55 = .ok (.iastore, 1) := by decide +kernel
theorem dX5_plainRentOf_56 : decode fX5_plainRentOf.2.1 56 = .ok (.aload_n 0, 1) := by decide +kernel
theorem dX5_plainRentOf_57 : decode fX5_plainRentOf.2.1 57 = .ok (.getfield 43, 3) := by decide +kernel
theorem dX5_plainRentOf_60 : decode fX5_plainRentOf.2.1 60 = .ok (.iconst 1, 1) := by decide +kernel
theorem dX5_plainRentOf_61 : decode fX5_plainRentOf.2.1 61 = .ok (.iload_n 2, 1) := by decide +kernel
theorem dX5_plainRentOf_62 : decode fX5_plainRentOf.2.1 62 = .ok (.invokestatic 146, 3) := by decide +kernel
theorem dX5_plainRentOf_65 : decode fX5_plainRentOf.2.1 65 = .ok (.iastore, 1) := by decide +kernel
theorem dX5_plainRentOf_66 : decode fX5_plainRentOf.2.1 66 = .ok (.aload_n 0, 1) := by decide +kernel
theorem dX5_plainRentOf_67 : decode fX5_plainRentOf.2.1 67 = .ok (.getfield 43, 3) := by decide +kernel
theorem dX5_plainRentOf_70 : decode fX5_plainRentOf.2.1 70 = .ok (.iconst 2, 1) := by decide +kernel
theorem dX5_plainRentOf_71 : decode fX5_plainRentOf.2.1 71 = .ok (.aload_n 0, 1) := by decide +kernel
theorem dX5_plainRentOf_72 : decode fX5_plainRentOf.2.1 72 = .ok (.getfield 78, 3) := by decide +kernel
theorem dX5_plainRentOf_75 : decode fX5_plainRentOf.2.1 75 = .ok (.iastore, 1) := by decide +kernel
theorem dX5_plainRentOf_76 : decode fX5_plainRentOf.2.1 76 = .ok (.aload_n 0, 1) := by decide +kernel
theorem dX5_plainRentOf_77 : decode fX5_plainRentOf.2.1 77 = .ok (.getfield 43, 3) := by decide +kernel
theorem dX5_plainRentOf_80 : decode fX5_plainRentOf.2.1 80 = .ok (.iconst 3, 1) := by decide +kernel
theorem dX5_plainRentOf_81 : decode fX5_plainRentOf.2.1 81 = .ok (.aload_n 0, 1) := by decide +kernel
theorem dX5_plainRentOf_82 : decode fX5_plainRentOf.2.1 82 = .ok (.aload_n 1, 1) := by decide +kernel
theorem dX5_plainRentOf_83 : decode fX5_plainRentOf.2.1 83 = .ok (.invokevirtual 133, 3) := by decide +kernel
theorem dX5_plainRentOf_86 : decode fX5_plainRentOf.2.1 86 = .ok (.iastore, 1) := by decide +kernel
theorem dX5_plainRentOf_87 : decode fX5_plainRentOf.2.1 87 = .ok (.aload 4, 2) := by decide +kernel
theorem dX5_plainRentOf_89 : decode fX5_plainRentOf.2.1 89 = .ok (.aload_n 0, 1) := by decide +kernel
theorem dX5_plainRentOf_90 : decode fX5_plainRentOf.2.1 90 = .ok (.getfield 43, 3) := by decide +kernel
theorem dX5_plainRentOf_93 : decode fX5_plainRentOf.2.1 93 = .ok (.aload_n 0, 1) := by decide +kernel
theorem dX5_plainRentOf_94 : decode fX5_plainRentOf.2.1 94 = .ok (.getfield 46, 3) := by decide +kernel
theorem dX5_plainRentOf_97 : decode fX5_plainRentOf.2.1 97 = .ok (.invokevirtual 165, 3) := by decide +kernel
theorem dX5_plainRentOf_100 : decode fX5_plainRentOf.2.1 100 = .ok (.sipush 9999, 3) := by decide +kernel
theorem dX5_plainRentOf_103 : decode fX5_plainRentOf.2.1 103 = .ok (.invokestatic 169, 3) := by decide +kernel
theorem dX5_plainRentOf_106 : decode fX5_plainRentOf.2.1 106 = .ok (.ireturn, 1) := by decide +kernel
set_option maxRecDepth 100000 in
set_option maxHeartbeats 4000000 in
theorem ok_X5_plainRentOf {X : Xb} {S : Sg} {mi : Mem} {t q : Nat} {seen : Int32} (hT : TwA S t) (hq : Kd S q 0 0) (hx : ∀ p, txOf S mi t 0 = some p → ∃ len, TxA S p len) : Ok 2 0 0 fX5_plainRentOf X [rf X t, rf X q, .int seen] S mi (fun r S' mi' => r = some (.int (cPlain S mi t q seen (mi (t + 6)) (mi (t + 7)))) ∧ S' = S ∧ Scr t mi mi') := by
  refine Ok.go [some (rf X t), some (rf X q), some (.int seen), none, none] (by decide) (by simp [Value.category]) (Nat.le_of_ble_eq_true rfl) rfl ?_
  obtain ⟨k_t, ⟨r_t_home, k_t_home⟩, ⟨r_t_price, k_t_price⟩, ⟨r_t_attics, k_t_attics⟩, ⟨r_t_texts, k_t_texts⟩, ⟨r_t_counting, k_t_counting⟩, ⟨r_t_names, k_t_names⟩, ⟨r_t_pile, k_t_pile⟩, ⟨r_t_views, k_t_views⟩, a_t⟩ := id hT
  have lp := mw_dn (P := fun k => MW X fX5_plainRentOf (rmOf 2 0 0) 0 0 5 [some (rf X t), some (rf X q), some (.int seen), some (.int (fld (fun s k => s + (seen >>> (nI k &&& 31) &&& 1) * mi (t + 2) k) 0 k)), some (.int (nI k))] [] S mi (mQ X 0 0 (fun r S' mi' => r = some (.int (cPlain S mi t q seen (mi (t + 6)) (mi (t + 7)))) ∧ S' = S ∧ Scr t mi mi'))) 8 (by
    refine mw_iload dX5_plainRentOf_5 rfl ?_
    refine mw_bipush (v := 8) dX5_plainRentOf_7 (by decide) ?_
    refine mw_icmp_ge (tgt := 35) dX5_plainRentOf_9 (by decide) (fun h9 => ?_) (fun h9 => ?_)
    · skip
      change MW X fX5_plainRentOf (rmOf 2 0 0) 0 0 35 [some (rf X t), some (rf X q), some (.int seen), some (.int (cPrices (mi (t + 2)) seen)), some (.int (nI 8))] [] S mi _
      refine mw_aload_n dX5_plainRentOf_35 rfl ?_
      refine mw_iconst (v := 0) dX5_plainRentOf_36 (by decide) ?_
      refine mw_callV (g := fX5_textFor) dX5_plainRentOf_37 ml_X5_161 mfX5_textFor (ok_X5_textFor hT (j := 0) (by decide)) (by assumption) rfl rfl (Nat.le_of_ble_eq_true rfl) ⟨by decide, by decide⟩ ⟨by decide, by decide⟩ (fun r S2 mi2 hp => ?_)
      obtain ⟨rfl, e1, e2⟩ := hp
      rw [e1, e2]
      cases htx : txOf S mi t 0 with
      | none =>
        refine mw_astoreN dX5_plainRentOf_40 (by decide) ?_
        refine mw_aloadN dX5_plainRentOf_42 rfl ?_
        refine mw_ifnonnullN dX5_plainRentOf_44 ?_
        refine mw_iload_n dX5_plainRentOf_47 rfl ?_
        exact mw_iret dX5_plainRentOf_48 rfl (by decide) (by decide) ⟨by simp only [cPlain, htx], rfl, Scr.rf _ _⟩
      | some p =>
      obtain ⟨len, x1, x2, x3, x4⟩ := hx p htx
      have np : p ≠ t + 6 := Kd_ne x1 k_t_names (by decide)
      have np5 : p ≠ t + 5 := Kd_ne x1 k_t_counting (by decide)
      have nq : q ≠ t + 6 := Kd_ne hq k_t_names (by decide)
      have np1 : p + 1 ≠ t + 6 := by omega
      refine mw_astore dX5_plainRentOf_40 (by decide) ?_
      refine mw_aload dX5_plainRentOf_42 rfl ?_
      refine mw_ifnonnull (tgt := 49) dX5_plainRentOf_44 (by decide) ?_
      skip
      skip
      skip
      skip
      skip
      refine mw_aload_n dX5_plainRentOf_49 rfl ?_
      refine mw_getr dX5_plainRentOf_50 fl_X5_43 rfl (by assumption) (by assumption) ?_
      refine mw_iconst (v := 0) dX5_plainRentOf_53 (by decide) ?_
      refine mw_iload_n dX5_plainRentOf_54 rfl ?_
      refine mw_iastK (k := 0) dX5_plainRentOf_55 (by assumption) (rfl) (by decide) (by decide) ?_
      refine mw_aload_n dX5_plainRentOf_56 rfl ?_
      refine mw_getr dX5_plainRentOf_57 fl_X5_43 rfl (by assumption) (by assumption) ?_
      refine mw_iconst (v := 1) dX5_plainRentOf_60 (by decide) ?_
      refine mw_iload_n dX5_plainRentOf_61 rfl ?_
      refine mw_cSI (g := fJ6_bitCount_0f7a4) dX5_plainRentOf_62 ml_X5_146 mfJ6_bitCount_0f7a4 (ok_J6_bitCount_0f7a4) rfl rfl (Nat.le_of_ble_eq_true rfl) ⟨by decide, by decide⟩ ⟨by decide, by decide⟩ ?_
      refine mw_iastK (k := 1) dX5_plainRentOf_65 (by assumption) (rfl) (by decide) (by decide) ?_
      refine mw_aload_n dX5_plainRentOf_66 rfl ?_
      refine mw_getr dX5_plainRentOf_67 fl_X5_43 rfl (by assumption) (by assumption) ?_
      refine mw_iconst (v := 2) dX5_plainRentOf_70 (by decide) ?_
      refine mw_aload_n dX5_plainRentOf_71 rfl ?_
      refine mw_geti dX5_plainRentOf_72 fl_X5_78 rfl (by assumption) ?_
      refine mw_iastK (k := 2) dX5_plainRentOf_75 (by assumption) (rfl) (by decide) (by decide) ?_
      refine mw_aload_n dX5_plainRentOf_76 rfl ?_
      refine mw_getr dX5_plainRentOf_77 fl_X5_43 rfl (by assumption) (by assumption) ?_
      refine mw_iconst (v := 3) dX5_plainRentOf_80 (by decide) ?_
      refine mw_aload_n dX5_plainRentOf_81 rfl ?_
      refine mw_aload_n dX5_plainRentOf_82 rfl ?_
      refine mw_cVI (g := fX5_wideOf) dX5_plainRentOf_83 ml_X5_133 mfX5_wideOf (ok_X5_wideOf hT hq) (by assumption) rfl rfl (Nat.le_of_ble_eq_true rfl) ⟨by decide, by decide⟩ ⟨by decide, by decide⟩ ?_
      refine mw_iastK (k := 3) dX5_plainRentOf_86 (by assumption) (rfl) (by decide) (by decide) ?_
      refine mw_aload dX5_plainRentOf_87 rfl ?_
      refine mw_aload_n dX5_plainRentOf_89 rfl ?_
      refine mw_getr dX5_plainRentOf_90 fl_X5_43 rfl (by assumption) (by assumption) ?_
      refine mw_aload_n dX5_plainRentOf_93 rfl ?_
      refine mw_getr dX5_plainRentOf_94 fl_X5_46 rfl (by assumption) (by assumption) ?_
      refine mw_cVI (g := fX4_gives) dX5_plainRentOf_97 ml_X5_165 mfX4_gives (ok_X4_gives x1 x2 x3 (by omega) k_t_names k_t_pile (by omega) (by omega)) (by assumption) rfl rfl (Nat.le_of_ble_eq_true rfl) ⟨by decide, by decide⟩ ⟨by decide, by decide⟩ ?_
      refine mw_sipush (v := 9999) dX5_plainRentOf_100 (by decide) ?_
      refine mw_cSNI (g := fX6_held) dX5_plainRentOf_103 nl_X5_169 mfX6_held (ok_X6_held) rfl rfl (Nat.le_of_ble_eq_true rfl) ⟨by decide, by decide⟩ ⟨by decide, by decide⟩ ?_
      exact mw_iret dX5_plainRentOf_106 rfl (by decide) (by decide) (⟨by simp only [cPlain, htx, x3.2, minI, maxI]; simp [m_up_row, m_up_ne, nq, np1, np5], rfl, fun a h1 h2 => by rw [m_row_ne h2, m_up_ne h1, m_up_ne h1, m_up_ne h1, m_up_ne h1]⟩)
    · skip
      exact absurd (by decide) h9) (fun k hk ih => by
    refine mw_iload dX5_plainRentOf_5 rfl ?_
    refine mw_bipush (v := 8) dX5_plainRentOf_7 (by decide) ?_
    refine mw_icmp_ge (tgt := 35) dX5_plainRentOf_9 (by decide) (fun h9 => ?_) (fun h9 => ?_)
    · skip
      exact absurd h9 (nI_ge (b := 8) (by omega) (by decide))
    · skip
      refine mw_iload_n dX5_plainRentOf_12 rfl ?_
      refine mw_iload_n dX5_plainRentOf_13 rfl ?_
      refine mw_iload dX5_plainRentOf_14 rfl ?_
      refine mw_ishr dX5_plainRentOf_16 ?_
      refine mw_iconst (v := 1) dX5_plainRentOf_17 (by decide) ?_
      refine mw_iand dX5_plainRentOf_18 ?_
      refine mw_aload_n dX5_plainRentOf_19 rfl ?_
      refine mw_getr dX5_plainRentOf_20 fl_X5_15 rfl (by assumption) (by assumption) ?_
      refine mw_iload dX5_plainRentOf_23 rfl ?_
      refine mw_ialdK (k := k) dX5_plainRentOf_25 (by assumption) (rfl) (by omega) (by decide) ?_
      refine mw_imul dX5_plainRentOf_26 ?_
      refine mw_iadd dX5_plainRentOf_27 ?_
      refine mw_istN 3 dX5_plainRentOf_28 rfl (by decide) ?_
      refine mw_iincK (k := k) dX5_plainRentOf_29 rfl rfl (by decide) ?_
      refine mw_goto (tgt := 5) dX5_plainRentOf_32 (by decide) ?_
      exact MW.back ih (by simp [lsub, fld]))
  refine mw_iconst (v := 0) dX5_plainRentOf_0 (by decide) ?_
  refine mw_istN 3 dX5_plainRentOf_1 rfl (by decide) ?_
  refine mw_iconst (v := 0) dX5_plainRentOf_2 (by decide) ?_
  refine mw_istore dX5_plainRentOf_3 (by decide) ?_
  exact MW.back lp (by simp [lsub, fld, nI_0])
/-- the rent of the attic at place q -/
def cRentP (kind seen plain : Int32) : Int32 := if kind = 1 then maxI 0 (plain - 1) else if kind = 3 then maxI 0 (plain - 1) / 2 else if kind = 2 then plain + 3 else if kind = 4 then plain + 3 + jBits seen else plain
def cSeesQ (mi : Mem) (t q : Nat) : Int32 := cSees (mi (t + 1)) (mi t 10) (mi t 4) (mi q 0) (mi q 1) (mi q 2)
def cRentX (S : Sg) (mi : Mem) (t q : Nat) (nm0 pile : Nat → Int32) : Int32 := cRentP (mi q 0) (cSeesQ mi t q) (cPlain S mi t q (cSeesQ mi t q) nm0 pile)
theorem dX5_rentOf_0 : decode fX5_rentOf.2.1 0 = .ok (.aload_n 0, 1) := by decide +kernel
theorem dX5_rentOf_1 : decode fX5_rentOf.2.1 1 = .ok (.aload_n 1, 1) := by decide +kernel
theorem dX5_rentOf_2 : decode fX5_rentOf.2.1 2 = .ok (.invokevirtual 142, 3) := by decide +kernel
theorem dX5_rentOf_5 : decode fX5_rentOf.2.1 5 = .ok (.istore_n 2, 1) := by decide +kernel
theorem dX5_rentOf_6 : decode fX5_rentOf.2.1 6 = .ok (.aload_n 0, 1) := by decide +kernel
theorem dX5_rentOf_7 : decode fX5_rentOf.2.1 7 = .ok (.aload_n 1, 1) := by decide +kernel
theorem dX5_rentOf_8 : decode fX5_rentOf.2.1 8 = .ok (.iload_n 2, 1) := by decide +kernel
theorem dX5_rentOf_9 : decode fX5_rentOf.2.1 9 = .ok (.invokevirtual 154, 3) := by decide +kernel
theorem dX5_rentOf_12 : decode fX5_rentOf.2.1 12 = .ok (.istore_n 3, 1) := by decide +kernel
theorem dX5_rentOf_13 : decode fX5_rentOf.2.1 13 = .ok (.aload_n 1, 1) := by decide +kernel
theorem dX5_rentOf_14 : decode fX5_rentOf.2.1 14 = .ok (.getfield 120, 3) := by decide +kernel
theorem dX5_rentOf_17 : decode fX5_rentOf.2.1 17 = .ok (.tableswitch 62 1 4 #[31, 49, 39, 53], 31) := by decide +kernel
theorem dX5_rentOf_48 : decode fX5_rentOf.2.1 48 = .ok (.iconst 0, 1) := by decide +kernel
theorem dX5_rentOf_49 : decode fX5_rentOf.2.1 49 = .ok (.iload_n 3, 1) := by decide +kernel
theorem dX5_rentOf_50 : decode fX5_rentOf.2.1 50 = .ok (.iconst 1, 1) := by decide +kernel
theorem dX5_rentOf_51 : decode fX5_rentOf.2.1 51 = .ok (.isub, 1) := by decide +kernel
theorem dX5_rentOf_52 : decode fX5_rentOf.2.1 52 = .ok (.invokestatic 158, 3) := by decide +kernel
theorem dX5_rentOf_55 : decode fX5_rentOf.2.1 55 = .ok (.ireturn, 1) := by decide +kernel
theorem dX5_rentOf_56 : decode fX5_rentOf.2.1 56 = .ok (.iconst 0, 1) := by decide +kernel
theorem dX5_rentOf_57 : decode fX5_rentOf.2.1 57 = .ok (.iload_n 3, 1) := by decide +kernel
theorem dX5_rentOf_58 : decode fX5_rentOf.2.1 58 = .ok (.iconst 1, 1) := by decide +kernel
theorem dX5_rentOf_59 : decode fX5_rentOf.2.1 59 = .ok (.isub, 1) := by decide +kernel
theorem dX5_rentOf_60 : decode fX5_rentOf.2.1 60 = .ok (.invokestatic 158, 3) := by decide +kernel
theorem dX5_rentOf_63 : decode fX5_rentOf.2.1 63 = .ok (.iconst 2, 1) := by decide +kernel
theorem dX5_rentOf_64 : decode fX5_rentOf.2.1 64 = .ok (.idiv, 1) := by decide +kernel
theorem dX5_rentOf_65 : decode fX5_rentOf.2.1 65 = .ok (.ireturn, 1) := by decide +kernel
theorem dX5_rentOf_66 : decode fX5_rentOf.2.1 66 = .ok (.iload_n 3, 1) := by decide +kernel
theorem dX5_rentOf_67 : decode fX5_rentOf.2.1 67 = .ok (.iconst 3, 1) := by decide +kernel
theorem dX5_rentOf_68 : decode fX5_rentOf.2.1 68 = .ok (.iadd, 1) := by decide +kernel
theorem dX5_rentOf_69 : decode fX5_rentOf.2.1 69 = .ok (.ireturn, 1) := by decide +kernel
theorem dX5_rentOf_70 : decode fX5_rentOf.2.1 70 = .ok (.iload_n 3, 1) := by decide +kernel
theorem dX5_rentOf_71 : decode fX5_rentOf.2.1 71 = .ok (.iconst 3, 1) := by decide +kernel
theorem dX5_rentOf_72 : decode fX5_rentOf.2.1 72 = .ok (.iadd, 1) := by decide +kernel
theorem dX5_rentOf_73 : decode fX5_rentOf.2.1 73 = .ok (.iload_n 2, 1) := by decide +kernel
theorem dX5_rentOf_74 : decode fX5_rentOf.2.1 74 = .ok (.invokestatic 146, 3) := by decide +kernel
theorem dX5_rentOf_77 : decode fX5_rentOf.2.1 77 = .ok (.iadd, 1) := by decide +kernel
theorem dX5_rentOf_78 : decode fX5_rentOf.2.1 78 = .ok (.ireturn, 1) := by decide +kernel
theorem dX5_rentOf_79 : decode fX5_rentOf.2.1 79 = .ok (.iload_n 3, 1) := by decide +kernel
theorem dX5_rentOf_80 : decode fX5_rentOf.2.1 80 = .ok (.ireturn, 1) := by decide +kernel
set_option maxRecDepth 100000 in
set_option maxHeartbeats 4000000 in
theorem ok_X5_rentOf {X : Xb} {S : Sg} {mi : Mem} {t q : Nat} (hT : TwA S t) (hq : Kd S q 0 0) (hx : ∀ p, txOf S mi t 0 = some p → ∃ len, TxA S p len) : Ok 3 0 0 fX5_rentOf X [rf X t, rf X q] S mi (fun r S' mi' => r = some (.int (cRentX S mi t q (mi (t + 6)) (mi (t + 7)))) ∧ S' = S ∧ Scr t mi mi') := by
  refine Ok.go [some (rf X t), some (rf X q), none, none] (by decide) (by simp [Value.category]) (Nat.le_of_ble_eq_true rfl) rfl ?_
  obtain ⟨k_t, ⟨r_t_home, k_t_home⟩, ⟨r_t_price, k_t_price⟩, ⟨r_t_attics, k_t_attics⟩, ⟨r_t_texts, k_t_texts⟩, ⟨r_t_counting, k_t_counting⟩, ⟨r_t_names, k_t_names⟩, ⟨r_t_pile, k_t_pile⟩, ⟨r_t_views, k_t_views⟩, a_t⟩ := id hT
  have nq1 : q ≠ t + 6 := Kd_ne hq k_t_names (by decide)
  have nq2 : q ≠ t + 7 := Kd_ne hq k_t_pile (by decide)
  refine mw_aload_n dX5_rentOf_0 rfl ?_
  refine mw_aload_n dX5_rentOf_1 rfl ?_
  refine mw_cVI (g := fX5_seenBy) dX5_rentOf_2 ml_X5_142 mfX5_seenBy (ok_X5_seenBy hT hq) (by assumption) rfl rfl (Nat.le_of_ble_eq_true rfl) ⟨by decide, by decide⟩ ⟨by decide, by decide⟩ ?_
  refine mw_istN 2 dX5_rentOf_5 rfl (by decide) ?_
  refine mw_aload_n dX5_rentOf_6 rfl ?_
  refine mw_aload_n dX5_rentOf_7 rfl ?_
  refine mw_iload_n dX5_rentOf_8 rfl ?_
  refine mw_callV (g := fX5_plainRentOf) dX5_rentOf_9 ml_X5_154 mfX5_plainRentOf (ok_X5_plainRentOf hT hq hx) (by assumption) rfl rfl (Nat.le_of_ble_eq_true rfl) ⟨by decide, by decide⟩ ⟨by decide, by decide⟩ (fun r S2 mi2 hp => ?_)
  obtain ⟨rfl, e1, hs⟩ := hp
  rw [e1]
  have eq0 : mi2 q = mi q := hs q nq1 nq2
  refine mw_istN 3 dX5_rentOf_12 rfl (by decide) ?_
  refine mw_aload_n dX5_rentOf_13 rfl ?_
  refine mw_geti dX5_rentOf_14 fl_X5_120 rfl (by assumption) ?_
  rw [eq0]
  refine mw_ts1 dX5_rentOf_17 (by decide) 1 48 (by decide) (fun h17_1 => ?_) (fun h17_1 => ?_)
  · skip
    refine mw_iconst (v := 0) dX5_rentOf_48 (by decide) ?_
    refine mw_iload_n dX5_rentOf_49 rfl ?_
    refine mw_iconst (v := 1) dX5_rentOf_50 (by decide) ?_
    refine mw_isub dX5_rentOf_51 ?_
    refine mw_mmax dX5_rentOf_52 ml_X5_158 (Nat.le_of_ble_eq_true rfl) ⟨by decide, by decide⟩ ⟨by decide, by decide⟩ ?_
    exact mw_iret dX5_rentOf_55 rfl (by decide) (by decide) (⟨by simp_all [cRentX, cRentP, cSeesQ, maxI], rfl, hs⟩)
  refine mw_ts1 dX5_rentOf_17 (by decide) 2 66 (by decide) (fun h17_2 => ?_) (fun h17_2 => ?_)
  · skip
    refine mw_iload_n dX5_rentOf_66 rfl ?_
    refine mw_iconst (v := 3) dX5_rentOf_67 (by decide) ?_
    refine mw_iadd dX5_rentOf_68 ?_
    exact mw_iret dX5_rentOf_69 rfl (by decide) (by decide) (⟨by simp_all [cRentX, cRentP, cSeesQ, maxI], rfl, hs⟩)
  refine mw_ts1 dX5_rentOf_17 (by decide) 3 56 (by decide) (fun h17_3 => ?_) (fun h17_3 => ?_)
  · skip
    refine mw_iconst (v := 0) dX5_rentOf_56 (by decide) ?_
    refine mw_iload_n dX5_rentOf_57 rfl ?_
    refine mw_iconst (v := 1) dX5_rentOf_58 (by decide) ?_
    refine mw_isub dX5_rentOf_59 ?_
    refine mw_mmax dX5_rentOf_60 ml_X5_158 (Nat.le_of_ble_eq_true rfl) ⟨by decide, by decide⟩ ⟨by decide, by decide⟩ ?_
    refine mw_iconst (v := 2) dX5_rentOf_63 (by decide) ?_
    refine mw_idiv dX5_rentOf_64 (by decide) ?_
    exact mw_iret dX5_rentOf_65 rfl (by decide) (by decide) (⟨by simp_all [cRentX, cRentP, cSeesQ, maxI], rfl, hs⟩)
  refine mw_ts1 dX5_rentOf_17 (by decide) 4 70 (by decide) (fun h17_4 => ?_) (fun h17_4 => ?_)
  · skip
    refine mw_iload_n dX5_rentOf_70 rfl ?_
    refine mw_iconst (v := 3) dX5_rentOf_71 (by decide) ?_
    refine mw_iadd dX5_rentOf_72 ?_
    refine mw_iload_n dX5_rentOf_73 rfl ?_
    refine mw_cSI (g := fJ6_bitCount_0f7a4) dX5_rentOf_74 ml_X5_146 mfJ6_bitCount_0f7a4 (ok_J6_bitCount_0f7a4) rfl rfl (Nat.le_of_ble_eq_true rfl) ⟨by decide, by decide⟩ ⟨by decide, by decide⟩ ?_
    refine mw_iadd dX5_rentOf_77 ?_
    exact mw_iret dX5_rentOf_78 rfl (by decide) (by decide) (⟨by simp_all [cRentX, cRentP, cSeesQ, maxI], rfl, hs⟩)
  refine mw_ts0 dX5_rentOf_17 (by decide) 79 (by decide) (by have e0 := ne_toI (n := 1) (by decide) h17_1; have e1 := ne_toI (n := 2) (by decide) h17_2; have e2 := ne_toI (n := 3) (by decide) h17_3; have e3 := ne_toI (n := 4) (by decide) h17_4; omega) ?_
  refine mw_iload_n dX5_rentOf_79 rfl ?_
  exact mw_iret dX5_rentOf_80 rfl (by decide) (by decide) (⟨by simp_all [cRentX, cRentP, cSeesQ, maxI], rfl, hs⟩)
end
section
/-! a law as a function of its names: what it gives doesn't hang on the scratch rows -/
def gDep (s : Nat → Int32) : Nat → Nat
  | 0 => 0
  | k + 1 => if s k < -4 then (if s k = -33 then gDep s k else gDep s k - 1) else gDep s k + 1
def WfC (s : Nat → Int32) (n : Nat) : Prop := 0 < n ∧ n ≤ 96 ∧ ∀ k, k < n → s k < -4 → (s k = -33 → 1 ≤ gDep s k) ∧ (s k ≠ -33 → 2 ≤ gDep s k)
theorem gDep_le (s : Nat → Int32) : ∀ k, gDep s k ≤ k
  | 0 => Nat.le_refl 0
  | k + 1 => by
    have := gDep_le s k
    simp only [gDep]
    grind
theorem nm4 {x : Int32} (h1 : ¬ x < -4) (h2 : x < 0) : (-1 - x).toNatClampNeg < 4 := Nat.not_le.mp fun q => nmIx h1 h2 (Or.inr q)
theorem gRun_wf {s : Nat → Int32} {n : Nat} (h : WfC s n) (nm nm' p p' : Nat → Int32) (hnm : ∀ j, j < 4 → nm j = nm' j) : ∀ k, k ≤ n → (gRun nm s p k).1 = gDep s k ∧ (gRun nm' s p' k).1 = gDep s k ∧ (∀ j, j < gDep s k → (gRun nm s p k).2 j = (gRun nm' s p' k).2 j) ∧ (0 < k → 0 < gDep s k)
  | 0, _ => ⟨rfl, rfl, fun j hj => absurd hj (Nat.not_lt_zero j), fun q => absurd q (Nat.lt_irrefl 0)⟩
  | k + 1, hk => by
    obtain ⟨i1, i2, i3, i4⟩ := gRun_wf h nm nm' p p' hnm k (by omega)
    have hw := h.2.2 k (by omega)
    have hd := gDep_le s k
    have hn := h.2.1
    by_cases c1 : s k < -4
    · by_cases c2 : s k = -33
      · have g1 := (hw c1).1 c2
        simp only [gRun, gStep, gDep, c2, show (-33 : Int32) < -4 from by decide, if_true, i1, i2, show ¬ gDep s k < 1 by omega, if_false]
        refine ⟨trivial, trivial, fun j hj => ?_, fun _ => by omega⟩
        simp only [upd, i3 (gDep s k - 1) (by omega)]
        by_cases hj2 : j = gDep s k - 1
        · simp [hj2]
        · simp [hj2, i3 j hj]
      · have g1 := (hw c1).2 c2
        simp only [gRun, gStep, gDep, c1, c2, if_true, i1, i2, show ¬ gDep s k < 2 by omega, if_false]
        refine ⟨trivial, trivial, fun j hj => ?_, fun _ => by omega⟩
        simp only [upd, i3 (gDep s k - 1) (by omega), i3 (gDep s k - 2) (by omega)]
        by_cases hj2 : j = gDep s k - 2
        · simp [hj2]
        · simp [hj2, i3 j (by omega)]
    · simp only [gRun, gStep, gDep, c1, i1, i2, show gDep s k < 96 by omega, if_true, if_false]
      refine ⟨trivial, trivial, fun j hj => ?_, fun _ => by omega⟩
      simp only [upd]
      by_cases hj2 : j = gDep s k
      · by_cases c3 : s k < 0
        · simp [hj2, c3, hnm _ (nm4 c1 c3)]
        · simp [hj2, c3]
      · simp [hj2, i3 j (by omega)]
/-- what a law gives, of its names -/
def lawF (s : Nat → Int32) (n : Nat) (a b c d : Int32) : Int32 := (gRun (c4 a b c d) s (fun _ => 0) n).2 0
theorem gRun_law {s : Nat → Int32} {n : Nat} (h : WfC s n) {nm p : Nat → Int32} {a b c d : Int32} (h0 : nm 0 = a) (h1 : nm 1 = b) (h2 : nm 2 = c) (h3 : nm 3 = d) : (gRun nm s p n).2 0 = lawF s n a b c d := by
  obtain ⟨-, -, i3, i4⟩ := gRun_wf h nm (c4 a b c d) p (fun _ => 0) (fun j hj => by
    have : j = 0 ∨ j = 1 ∨ j = 2 ∨ j = 3 := by omega
    rcases this with rfl | rfl | rfl | rfl <;> simp [c4, *]) n (Nat.le_refl n)
  exact i3 0 (i4 h.1)
abbrev LawT : Type := Option (Int32 → Int32 → Int32 → Int32 → Int32)
def plainF (lw : LawT) (prices bits hour wide : Int32) : Int32 := match lw with
  | none => prices
  | some f => maxI 0 (minI 9999 (f prices bits hour wide))
/-- the law for key j of the town at t -/
def lwC (S : Sg) (mi : Mem) (t j : Nat) : LawT := (txOf S mi t j).map (fun p => lawF (mi (p + 1)) (S.2.1 (p + 1)).2)
/-- the texts that count are texts -/
def TxOk (S : Sg) (mi : Mem) (t j : Nat) : Prop := ∀ p, txOf S mi t j = some p → ∃ len, TxA S p len ∧ WfC (mi (p + 1)) len
theorem cPlain_law {S : Sg} {mi : Mem} {t q : Nat} {seen : Int32} {nm0 pile : Nat → Int32} (h : TxOk S mi t 0) : cPlain S mi t q seen nm0 pile = plainF (lwC S mi t 0) (cPrices (mi (t + 2)) seen) (jBits seen) (mi t 10) (sWide (mi t 10) (mi q 0) (mi q 2)) := by
  unfold cPlain lwC
  cases hx : txOf S mi t 0 with
  | none => rfl
  | some p =>
    obtain ⟨len, h1, h2⟩ := h p hx
    simp only [Option.map_some, plainF, h1.2.2.1.2]
    rw [gRun_law h2 rfl rfl rfl rfl]
    rfl
def cRent (S : Sg) (mi : Mem) (t q : Nat) : Int32 := cRentP (mi q 0) (cSeesQ mi t q) (plainF (lwC S mi t 0) (cPrices (mi (t + 2)) (cSeesQ mi t q)) (jBits (cSeesQ mi t q)) (mi t 10) (sWide (mi t 10) (mi q 0) (mi q 2)))
theorem ok_rentOf {X : Xb} {S : Sg} {mi : Mem} {t q : Nat} (hT : TwA S t) (hq : Kd S q 0 0) (hx : TxOk S mi t 0) : Ok 3 0 0 fX5_rentOf X [rf X t, rf X q] S mi (fun r S' mi' => r = some (.int (cRent S mi t q)) ∧ S' = S ∧ Scr t mi mi') := by
  refine Ok.post (ok_X5_rentOf hT hq (fun p hp => ⟨_, (hx p hp).choose_spec.1⟩)) (fun r S' mi' h => ?_)
  obtain ⟨h1, h2, h3⟩ := h
  refine ⟨?_, h2, h3⟩
  rw [h1, cRentX, cPlain_law hx]
  rfl
end
section
/-! a town as a row of numbers (as the model has it), and what an hour makes of the row -/
def tvF (j : Nat) : Nat := ([11, 3, 10, 8, 9, 13, 5, 6, 7, 4] : List Nat).getD j 0
def tv (mi : Mem) (t : Nat) : Nat → Int32 := fun j => if j < 10 then mi t (tvF j) else if j < 18 then mi (t + 1) (j - 10) else if j < 26 then mi (t + 2) (j - 18) else mi (t + 9 + (j - 26) / 5) ((j - 26) % 5)
def eqOn (N : Nat) (f g : Nat → Int32) : Prop := ∀ j, j < N → f j = g j
/-- of the town at t only its numbers, its attics and its scratch rows differ -/
def Frt (t : Nat) (mi m : Mem) : Prop := ∀ a, a ≠ t → ¬ (t + 9 ≤ a ∧ a < t + 17) → a ≠ t + 6 → a ≠ t + 7 → m a = mi a
theorem Frt.rf (t : Nat) (mi : Mem) : Frt t mi mi := fun _ _ _ _ _ => rfl
theorem Frt.tr {t : Nat} {a b c : Mem} (h : Frt t a b) (k : Frt t b c) : Frt t a c := fun x h1 h2 h3 h4 => (k x h1 h2 h3 h4).trans (h x h1 h2 h3 h4)
theorem Frt.scr {t : Nat} {a b : Mem} (h : Scr t a b) : Frt t a b := fun x _ _ h3 h4 => h x h3 h4
theorem Frt.up0 {t : Nat} {mi m : Mem} {f : Nat} {v : Int32} (h : Frt t mi m) : Frt t mi (m_up m t f v) := fun x h1 h2 h3 h4 => by rw [m_up_ne h1]; exact h x h1 h2 h3 h4
theorem Frt.upA {t a : Nat} {mi m : Mem} {f : Nat} {v : Int32} (h : Frt t mi m) (ha : a < 8) : Frt t mi (m_up m (t + 9 + a) f v) := fun x h1 h2 h3 h4 => by rw [m_up_ne (by omega)]; exact h x h1 h2 h3 h4
theorem tv_up0 {N t j : Nat} {m : Mem} {B : Nat → Int32} {v : Int32} (hj : j < 10) (h : eqOn N (tv m t) B) : eqOn N (tv (m_up m t (tvF j) v) t) (upd B j v) := by
  intro i hi
  have h0 := h i hi
  have inj : ∀ a, a < 10 → ∀ b, b < 10 → tvF a = tvF b → a = b := by decide
  simp only [tv] at h0 ⊢
  by_cases c1 : i < 10
  · by_cases c2 : i = j
    · subst c2; simp [m_up, upd, c1]
    · have : tvF i ≠ tvF j := fun e => c2 (inj i c1 j hj e)
      simp [m_up, upd, c1, c2, this] at h0 ⊢; exact h0
  · have c2 : i ≠ j := by omega
    simp only [c1, if_false] at h0 ⊢
    simp only [upd, c2, if_false]
    rw [m_up_ne (show t + 1 ≠ t by omega), m_up_ne (show t + 2 ≠ t by omega), m_up_ne (show t + 9 + (i - 26) / 5 ≠ t by omega)]
    exact h0
theorem tv_upA {N t a f : Nat} {m : Mem} {B : Nat → Int32} {v : Int32} (ha : a < 8) (hf : f < 5) (h : eqOn N (tv m t) B) : eqOn N (tv (m_up m (t + 9 + a) f v) t) (upd B (26 + 5 * a + f) v) := by
  intro i hi
  have h0 := h i hi
  simp only [tv] at h0 ⊢
  rw [m_up_ne (show t ≠ t + 9 + a by omega), m_up_ne (show t + 1 ≠ t + 9 + a by omega), m_up_ne (show t + 2 ≠ t + 9 + a by omega)]
  by_cases c1 : i < 26
  · have c2 : i ≠ 26 + 5 * a + f := by omega
    simp only [upd, c2, if_false]
    by_cases c3 : i < 10
    · simp only [c3, if_true] at h0 ⊢; exact h0
    · by_cases c4 : i < 18
      · simp only [c3, c4, if_true, if_false] at h0 ⊢; exact h0
      · simp only [c3, c4, c1, if_true, if_false] at h0 ⊢; exact h0
  · simp only [show ¬ i < 10 by omega, show ¬ i < 18 by omega, c1, if_false] at h0 ⊢
    by_cases c2 : i = 26 + 5 * a + f
    · subst c2
      have e1 : (26 + 5 * a + f - 26) / 5 = a := by omega
      have e2 : (26 + 5 * a + f - 26) % 5 = f := by omega
      simp [e1, e2, m_up, upd]
    · have : ¬ (t + 9 + (i - 26) / 5 = t + 9 + a ∧ (i - 26) % 5 = f) := fun e => c2 (by omega)
      simp only [m_up, this, if_false, upd, c2]
      exact h0
theorem tv_scr {N t : Nat} {m m' : Mem} {B : Nat → Int32} (hs : Scr t m m') (h : eqOn N (tv m t) B) : eqOn N (tv m' t) B := by
  intro i hi
  rw [← h i hi]
  simp only [tv]
  rw [hs t (by omega) (by omega), hs (t + 1) (by omega) (by omega), hs (t + 2) (by omega) (by omega), hs (t + 9 + (i - 26) / 5) (by omega) (by omega)]
theorem tv_0 {N t j : Nat} {m : Mem} {B : Nat → Int32} (h : eqOn N (tv m t) B) (hj : j < 10) (hN : 26 ≤ N) : m t (tvF j) = B j := by
  have := h j (by omega)
  simpa [tv, hj] using this
theorem tv_A {N t a f : Nat} {m : Mem} {B : Nat → Int32} (h : eqOn N (tv m t) B) (hf : f < 5) (hN : 26 + 5 * a + f < N) : m (t + 9 + a) f = B (26 + 5 * a + f) := by
  have := h _ hN
  simp only [tv, show ¬ 26 + 5 * a + f < 10 by omega, show ¬ 26 + 5 * a + f < 18 by omega, show ¬ 26 + 5 * a + f < 26 by omega, if_false, show (26 + 5 * a + f - 26) / 5 = a by omega, show (26 + 5 * a + f - 26) % 5 = f by omega] at this
  exact this
theorem tv_home {N t k : Nat} {m : Mem} {B : Nat → Int32} (h : eqOn N (tv m t) B) (hk : k < 8) (hN : 26 ≤ N) : m (t + 1) k = B (10 + k) := by
  have := h (10 + k) (by omega)
  simp only [tv, show ¬ 10 + k < 10 by omega, show 10 + k < 18 by omega, if_false, if_true, show 10 + k - 10 = k by omega] at this
  exact this
theorem tv_price {N t k : Nat} {m : Mem} {B : Nat → Int32} (h : eqOn N (tv m t) B) (hk : k < 8) (hN : 26 ≤ N) : m (t + 2) k = B (18 + k) := by
  have := h (18 + k) (by omega)
  simp only [tv, show ¬ 18 + k < 10 by omega, show ¬ 18 + k < 18 by omega, show 18 + k < 26 by omega, if_false, if_true, show 18 + k - 18 = k by omega] at this
  exact this
theorem seesTo_congr {p q : Nat → Bool} : ∀ n, (∀ k, k < n → p k = q k) → seesTo p n = seesTo q n
  | 0, _ => rfl
  | n + 1, h => by
    simp only [seesTo]
    rw [h n (by omega), seesTo_congr n (fun k hk => h k (by omega))]
theorem fld_congr {g h : Int32 → Nat → Int32} {z : Int32} : ∀ n, (∀ s k, k < n → g s k = h s k) → fld g z n = fld h z n
  | 0, _ => rfl
  | n + 1, e => by
    simp only [fld]
    rw [e _ n (by omega), fld_congr n (fun s k hk => e s k (by omega))]
theorem cSees_congr {h h' : Nat → Int32} {a b c d e : Int32} (hh : ∀ k, k < 8 → h k = h' k) : cSees h a b c d e = cSees h' a b c d e := seesTo_congr 8 (fun k hk => by simp only [cSeeB, hh k hk])
theorem cPrices_congr {h h' : Nat → Int32} {a : Int32} (hh : ∀ k, k < 8 → h k = h' k) : cPrices h a = cPrices h' a := fld_congr 8 (fun s k hk => by simp only [hh k hk])
/-- rows: what attic a sees, its rent -/
def rSee (A : Nat → Int32) (a : Nat) : Int32 := cSees (fun k => A (10 + k)) (A 2) (A 9) (A (26 + 5 * a)) (A (26 + 5 * a + 1)) (A (26 + 5 * a + 2))
def rRent (lw : LawT) (A : Nat → Int32) (a : Nat) : Int32 := cRentP (A (26 + 5 * a)) (rSee A a) (plainF lw (cPrices (fun k => A (18 + k)) (rSee A a)) (jBits (rSee A a)) (A 2) (sWide (A 2) (A (26 + 5 * a)) (A (26 + 5 * a + 2))))
theorem rSee_of {N t a : Nat} {m : Mem} {B : Nat → Int32} (h : eqOn N (tv m t) B) (hN : 26 + 5 * a + 5 ≤ N) : cSeesQ m t (t + 9 + a) = rSee B a := by
  unfold cSeesQ rSee
  rw [cSees_congr (fun k hk => tv_home h hk (by omega)), tv_A (f := 0) h (by decide) (by omega), tv_A (f := 1) h (by decide) (by omega), tv_A (f := 2) h (by decide) (by omega), show (10 : Nat) = tvF 2 from rfl, show (4 : Nat) = tvF 9 from rfl, tv_0 h (by decide) (by omega), tv_0 h (by decide) (by omega)]
  rfl
theorem cRent_of {S : Sg} {N t a : Nat} {m : Mem} {B : Nat → Int32} (h : eqOn N (tv m t) B) (hN : 26 + 5 * a + 5 ≤ N) : cRent S m t (t + 9 + a) = rRent (lwC S m t 0) B a := by
  unfold cRent rRent
  rw [rSee_of h hN, cPrices_congr (fun k hk => tv_price h hk (by omega)), tv_A (f := 0) h (by decide) (by omega), tv_A (f := 2) h (by decide) (by omega), show (10 : Nat) = tvF 2 from rfl, tv_0 h (by decide) (by omega)]
  rfl
def pay1 (lw : LawT) (A : Nat → Int32) (a : Nat) : Nat → Int32 :=
  upd (upd (upd A (26 + 5 * a + 3) (A (26 + 5 * a + 3) - minI (A (26 + 5 * a + 3)) (rRent lw A a))) (26 + 5 * a + 4) (minI 9999 (A (26 + 5 * a + 4) + rRent lw A a - minI (A (26 + 5 * a + 3)) (rRent lw A a)))) 3 (A 3 + minI (A (26 + 5 * a + 3)) (rRent lw A a))
def paysTo (lw : LawT) (A : Nat → Int32) : Nat → Nat → Int32
  | 0 => A
  | k + 1 => pay1 lw (paysTo lw A k) k
def wageTo (A : Nat → Int32) : Nat → Nat → Int32
  | 0 => A
  | k + 1 => upd (wageTo A k) (26 + 5 * k + 3) (minI 9999 (wageTo A k (26 + 5 * k + 3) + wageTo A k 8))
theorem paysTo_lo {lw : LawT} {A : Nat → Int32} {j : Nat} (hj : j < 26) (h3 : j ≠ 3) : ∀ k, paysTo lw A k j = A j
  | 0 => rfl
  | k + 1 => by
    simp only [paysTo, pay1, upd, h3, show j ≠ 26 + 5 * k + 3 by omega, show j ≠ 26 + 5 * k + 4 by omega, if_false]
    exact paysTo_lo hj h3 k
theorem wageTo_lo {A : Nat → Int32} {j : Nat} (hj : j < 26) : ∀ k, wageTo A k j = A j
  | 0 => rfl
  | k + 1 => by
    simp only [wageTo, upd, show j ≠ 26 + 5 * k + 3 by omega, if_false]
    exact wageTo_lo hj k
def dr1 (A : Nat → Int32) : Int32 := jr (jus (nz1 (A 0)) 8) 100
def dr2 (A : Nat → Int32) : Int32 := jr (jus (nz1 (nz1 (A 0))) 8) 100
def hA0 (A : Nat → Int32) : Nat → Int32 := upd A 0 (nz1 (nz1 (A 0)))
def hPay (lw : LawT) (n : Nat) (A : Nat → Int32) : Nat → Int32 := if dr1 A < A 6 then upd (hA0 A) 4 (A 4 + 1) else paysTo lw (hA0 A) n
def hSm (A B : Nat → Int32) : Nat → Int32 := if dr2 A < A 7 then upd (upd B 0 (nz1 (B 0))) 9 (B 9 ^^^ (1 <<< (jr (jus (nz1 (B 0)) 8) 24 &&& 31))) else B
def hWage (n : Nat) (B : Nat → Int32) : Nat → Int32 := if jr (B 2) 24 = 6 then wageTo B n else B
def hEnd (B : Nat → Int32) : Nat → Int32 := upd B 2 (B 2 + 1)
/-- an hour -/
def hourF (lw : LawT) (n : Nat) (A : Nat → Int32) : Nat → Int32 := hEnd (hWage n (hSm A (hPay lw n A)))
theorem hPay_lo {lw : LawT} {n j : Nat} {A : Nat → Int32} (hj : j < 26) (h0 : j ≠ 0) (h3 : j ≠ 3) (h4 : j ≠ 4) : hPay lw n A j = A j := by
  unfold hPay
  split
  · simp [upd, hA0, h0, h4]
  · rw [paysTo_lo hj h3]; simp [hA0, upd, h0]
theorem tx_far {S : Sg} {mi m : Mem} {t p len : Nat} (hT : TwA S t) (hf : Frt t mi m) (hx : TxA S p len) : m (p + 1) = mi (p + 1) := by
  have k_t := hT.1
  have k_c := hT.2.2.2.2.2.1.2
  have k_n := hT.2.2.2.2.2.2.1.2
  have a_t := hT.2.2.2.2.2.2.2.2.2
  have n1 : p + 1 ≠ t := Kd_ne hx.2.2.1 k_t (by decide)
  have n2 : p ≠ t + 5 := Kd_ne hx.1 k_c (by decide)
  have n3 : p ≠ t + 6 := Kd_ne hx.1 k_n (by decide)
  have n4 : ∀ i, i < 8 → p + 1 ≠ t + 9 + i := fun i hi => Kd_ne hx.2.2.1 (a_t i hi).2 (by decide)
  refine hf _ n1 (fun hh => n4 (p + 1 - (t + 9)) (by omega) (by omega)) (by omega) (by omega)
theorem tx_same {S : Sg} {mi m : Mem} {t : Nat} (hf : Frt t mi m) (j : Nat) : txOf S m t j = txOf S mi t j := by
  have e5 : m (t + 5) = mi (t + 5) := hf (t + 5) (by omega) (by omega) (by omega) (by omega)
  simp only [txOf, e5]
theorem TxOk.fr {S : Sg} {mi m : Mem} {t j : Nat} (hT : TwA S t) (h : TxOk S mi t j) (hf : Frt t mi m) : TxOk S m t j := by
  intro p hp
  rw [tx_same hf] at hp
  obtain ⟨len, h1, h2⟩ := h p hp
  exact ⟨len, h1, by rw [tx_far hT hf h1]; exact h2⟩
theorem lwC_fr {S : Sg} {mi m : Mem} {t j : Nat} (hT : TwA S t) (h : TxOk S mi t j) (hf : Frt t mi m) : lwC S m t j = lwC S mi t j := by
  have e : ∀ p, txOf S mi t j = some p → m (p + 1) = mi (p + 1) := fun p hp => by
    obtain ⟨len, h1, -⟩ := h p hp
    exact tx_far hT hf h1
  unfold lwC
  rw [tx_same hf]
  generalize txOf S mi t j = o at e
  cases o with
  | none => rw [Option.map_none, Option.map_none]
  | some p => rw [Option.map_some, Option.map_some, e p rfl]
end
section
/-! Town: an hour -/
theorem m_up_at (mi : Mem) (i j : Nat) (v : Int32) : m_up mi i j v i j = v := by simp [m_up]
theorem m_up_of {mi : Mem} {i j k : Nat} {v : Int32} (h : k ≠ j) : m_up mi i j v i k = mi i k := by simp [m_up, h]
theorem m_up_up (mi : Mem) (i j : Nat) (v w : Int32) : m_up (m_up mi i j v) i j w = m_up mi i j w := by
  funext a b; simp only [m_up]; grind
theorem dX5_passHour_0 : decode fX5_passHour.2.1 0 = .ok (.aload_n 0, 1) := by decide +kernel
theorem dX5_passHour_1 : decode fX5_passHour.2.1 1 = .ok (.invokevirtual 89, 3) := by decide +kernel
theorem dX5_passHour_4 : decode fX5_passHour.2.1 4 = .ok (.istore_n 1, 1) := by decide +kernel
theorem dX5_passHour_5 : decode fX5_passHour.2.1 5 = .ok (.aload_n 0, 1) := by decide +kernel
theorem dX5_passHour_6 : decode fX5_passHour.2.1 6 = .ok (.invokevirtual 89, 3) := by decide +kernel
theorem dX5_passHour_9 : decode fX5_passHour.2.1 9 = .ok (.istore_n 2, 1) := by decide +kernel
theorem dX5_passHour_10 : decode fX5_passHour.2.1 10 = .ok (.iload_n 1, 1) := by decide +kernel
theorem dX5_passHour_11 : decode fX5_passHour.2.1 11 = .ok (.bipush 100, 2) := by decide +kernel
theorem dX5_passHour_13 : decode fX5_passHour.2.1 13 = .ok (.irem, 1) := by decide +kernel
theorem dX5_passHour_14 : decode fX5_passHour.2.1 14 = .ok (.aload_n 0, 1) := by decide +kernel
theorem dX5_passHour_15 : decode fX5_passHour.2.1 15 = .ok (.getfield 24, 3) := by decide +kernel
theorem dX5_passHour_18 : decode fX5_passHour.2.1 18 = .ok (.if_icmp .ge 16, 3) := by decide +kernel
theorem dX5_passHour_21 : decode fX5_passHour.2.1 21 = .ok (.aload_n 0, 1) := by decide +kernel
theorem dX5_passHour_22 : decode fX5_passHour.2.1 22 = .ok (.dup, 1) := by decide +kernel
theorem dX5_passHour_23 : decode fX5_passHour.2.1 23 = .ok (.getfield 75, 3) := by decide +kernel
theorem dX5_passHour_26 : decode fX5_passHour.2.1 26 = .ok (.iconst 1, 1) := by decide +kernel
theorem dX5_passHour_27 : decode fX5_passHour.2.1 27 = .ok (.iadd, 1) := by decide +kernel
theorem dX5_passHour_28 : decode fX5_passHour.2.1 28 = .ok (.putfield 75, 3) := by decide +kernel
theorem dX5_passHour_31 : decode fX5_passHour.2.1 31 = .ok (.goto 47, 3) := by decide +kernel
theorem dX5_passHour_34 : decode fX5_passHour.2.1 34 = .ok (.iconst 0, 1) := by decide +kernel
theorem dX5_passHour_35 : decode fX5_passHour.2.1 35 = .ok (.istore_n 3, 1) := by decide +kernel
theorem dX5_passHour_36 : decode fX5_passHour.2.1 36 = .ok (.iload_n 3, 1) := by decide +kernel
theorem dX5_passHour_37 : decode fX5_passHour.2.1 37 = .ok (.aload_n 0, 1) := by decide +kernel
theorem dX5_passHour_38 : decode fX5_passHour.2.1 38 = .ok (.getfield 59, 3) := by decide +kernel
theorem dX5_passHour_41 : decode fX5_passHour.2.1 41 = .ok (.if_icmp .ge 37, 3) := by decide +kernel
theorem dX5_passHour_44 : decode fX5_passHour.2.1 44 = .ok (.aload_n 0, 1) := by decide +kernel
theorem dX5_passHour_45 : decode fX5_passHour.2.1 45 = .ok (.dup, 1) := by decide +kernel
theorem dX5_passHour_46 : decode fX5_passHour.2.1 46 = .ok (.getfield 72, 3) := by decide +kernel
theorem dX5_passHour_49 : decode fX5_passHour.2.1 49 = .ok (.aload_n 0, 1) := by decide +kernel
theorem dX5_passHour_50 : decode fX5_passHour.2.1 50 = .ok (.getfield 20, 3) := by decide +kernel
theorem dX5_passHour_53 : decode fX5_passHour.2.1 53 = .ok (.iload_n 3, 1) := by decide +kernel
theorem dX5_passHour_54 : decode fX5_passHour.2.1 54 = .ok (.aaload, 1) := by decide +kernel
theorem dX5_passHour_55 : decode fX5_passHour.2.1 55 = .ok (.aload_n 0, 1) := by decide +kernel
theorem dX5_passHour_56 : decode fX5_passHour.2.1 56 = .ok (.aload_n 0, 1) := by decide +kernel
theorem dX5_passHour_57 : decode fX5_passHour.2.1 57 = .ok (.getfield 20, 3) := by decide +kernel
theorem dX5_passHour_60 : decode fX5_passHour.2.1 60 = .ok (.iload_n 3, 1) := by decide +kernel
theorem dX5_passHour_61 : decode fX5_passHour.2.1 61 = .ok (.aaload, 1) := by decide +kernel
theorem dX5_passHour_62 : decode fX5_passHour.2.1 62 = .ok (.invokevirtual 101, 3) := by decide +kernel
theorem dX5_passHour_65 : decode fX5_passHour.2.1 65 = .ok (.invokevirtual 105, 3) := by decide +kernel
theorem dX5_passHour_68 : decode fX5_passHour.2.1 68 = .ok (.iadd, 1) := by decide +kernel
theorem dX5_passHour_69 : decode fX5_passHour.2.1 69 = .ok (.putfield 72, 3) := by decide +kernel
theorem dX5_passHour_72 : decode fX5_passHour.2.1 72 = .ok (.iinc 3 1, 3) := by decide +kernel
theorem dX5_passHour_75 : decode fX5_passHour.2.1 75 = .ok (.goto (-39), 3) := by decide +kernel
theorem dX5_passHour_78 : decode fX5_passHour.2.1 78 = .ok (.iload_n 2, 1) := by decide +kernel
theorem dX5_passHour_79 : decode fX5_passHour.2.1 79 = .ok (.bipush 100, 2) := by decide +kernel
theorem dX5_passHour_81 : decode fX5_passHour.2.1 81 = .ok (.irem, 1) := by decide +kernel
theorem dX5_passHour_82 : decode fX5_passHour.2.1 82 = .ok (.aload_n 0, 1) := by decide +kernel
theorem dX5_passHour_83 : decode fX5_passHour.2.1 83 = .ok (.getfield 69, 3) := by decide +kernel
theorem dX5_passHour_86 : decode fX5_passHour.2.1 86 = .ok (.if_icmp .ge 21, 3) := by decide +kernel
theorem dX5_passHour_89 : decode fX5_passHour.2.1 89 = .ok (.aload_n 0, 1) := by decide +kernel
theorem dX5_passHour_90 : decode fX5_passHour.2.1 90 = .ok (.dup, 1) := by decide +kernel
theorem dX5_passHour_91 : decode fX5_passHour.2.1 91 = .ok (.getfield 66, 3) := by decide +kernel
theorem dX5_passHour_94 : decode fX5_passHour.2.1 94 = .ok (.iconst 1, 1) := by decide +kernel
theorem dX5_passHour_95 : decode fX5_passHour.2.1 95 = .ok (.aload_n 0, 1) := by decide +kernel
theorem dX5_passHour_96 : decode fX5_passHour.2.1 96 = .ok (.invokevirtual 89, 3) := by decide +kernel
theorem dX5_passHour_99 : decode fX5_passHour.2.1 99 = .ok (.bipush 24, 2) := by decide +kernel
theorem dX5_passHour_101 : decode fX5_passHour.2.1 101 = .ok (.irem, 1) := by decide +kernel
theorem dX5_passHour_102 : decode fX5_passHour.2.1 102 = .ok (.ishl, 1) := by decide +kernel
theorem dX5_passHour_103 : decode fX5_passHour.2.1 103 = .ok (.ixor, 1) := by decide +kernel
theorem dX5_passHour_104 : decode fX5_passHour.2.1 104 = .ok (.putfield 66, 3) := by decide +kernel
theorem dX5_passHour_107 : decode fX5_passHour.2.1 107 = .ok (.aload_n 0, 1) := by decide +kernel
theorem dX5_passHour_108 : decode fX5_passHour.2.1 108 = .ok (.getfield 78, 3) := by decide +kernel
theorem dX5_passHour_111 : decode fX5_passHour.2.1 111 = .ok (.bipush 24, 2) := by decide +kernel
theorem dX5_passHour_113 : decode fX5_passHour.2.1 113 = .ok (.irem, 1) := by decide +kernel
theorem dX5_passHour_114 : decode fX5_passHour.2.1 114 = .ok (.bipush 6, 2) := by decide +kernel
theorem dX5_passHour_116 : decode fX5_passHour.2.1 116 = .ok (.if_icmp .ne 32, 3) := by decide +kernel
theorem dX5_passHour_119 : decode fX5_passHour.2.1 119 = .ok (.iconst 0, 1) := by decide +kernel
theorem dX5_passHour_120 : decode fX5_passHour.2.1 120 = .ok (.istore_n 3, 1) := by decide +kernel
theorem dX5_passHour_121 : decode fX5_passHour.2.1 121 = .ok (.iload_n 3, 1) := by decide +kernel
theorem dX5_passHour_122 : decode fX5_passHour.2.1 122 = .ok (.aload_n 0, 1) := by decide +kernel
theorem dX5_passHour_123 : decode fX5_passHour.2.1 123 = .ok (.getfield 59, 3) := by decide +kernel
theorem dX5_passHour_126 : decode fX5_passHour.2.1 126 = .ok (.if_icmp .ge 22, 3) := by decide +kernel
theorem dX5_passHour_129 : decode fX5_passHour.2.1 129 = .ok (.aload_n 0, 1) := by decide +kernel
theorem dX5_passHour_130 : decode fX5_passHour.2.1 130 = .ok (.getfield 20, 3) := by decide +kernel
theorem dX5_passHour_133 : decode fX5_passHour.2.1 133 = .ok (.iload_n 3, 1) := by decide +kernel
theorem dX5_passHour_134 : decode fX5_passHour.2.1 134 = .ok (.aaload, 1) := by decide +kernel
theorem dX5_passHour_135 : decode fX5_passHour.2.1 135 = .ok (.aload_n 0, 1) := by decide +kernel
theorem dX5_passHour_136 : decode fX5_passHour.2.1 136 = .ok (.getfield 28, 3) := by decide +kernel
theorem dX5_passHour_139 : decode fX5_passHour.2.1 139 = .ok (.invokevirtual 109, 3) := by decide +kernel
theorem dX5_passHour_142 : decode fX5_passHour.2.1 142 = .ok (.iinc 3 1, 3) := by decide +kernel
theorem dX5_passHour_145 : decode fX5_passHour.2.1 145 = .ok (.goto (-24), 3) := by decide +kernel
theorem dX5_passHour_148 : decode fX5_passHour.2.1 148 = .ok (.aload_n 0, 1) := by decide +kernel
theorem dX5_passHour_149 : decode fX5_passHour.2.1 149 = .ok (.dup, 1) := by decide +kernel
theorem dX5_passHour_150 : decode fX5_passHour.2.1 150 = .ok (.getfield 78, 3) := by decide +kernel
theorem dX5_passHour_153 : decode fX5_passHour.2.1 153 = .ok (.iconst 1, 1) := by decide +kernel
theorem dX5_passHour_154 : decode fX5_passHour.2.1 154 = .ok (.iadd, 1) := by decide +kernel
theorem dX5_passHour_155 : decode fX5_passHour.2.1 155 = .ok (.putfield 78, 3) := by decide +kernel
theorem dX5_passHour_158 : decode fX5_passHour.2.1 158 = .ok (.return_, 1) := by decide +kernel
set_option maxRecDepth 100000 in
set_option maxHeartbeats 4000000 in
theorem ok_X5_passHour {X : Xb} {S : Sg} {mi : Mem} {t n : Nat} {A : Nat → Int32} {lw : LawT} (hT : TwA S t) (hn8 : n ≤ 8) (hA : eqOn (26 + 5 * n) (tv mi t) A) (hn : A 1 = nI n) (hx : TxOk S mi t 0) (hl : lwC S mi t 0 = lw) : Ok 4 0 0 fX5_passHour X [rf X t] S mi (fun r S' m => r = none ∧ S' = S ∧ eqOn (26 + 5 * n) (tv m t) (hourF lw n A) ∧ Frt t mi m) := by
  refine Ok.go [some (rf X t), none, none, none] (by decide) (by simp [Value.category]) (Nat.le_of_ble_eq_true rfl) rfl ?_
  obtain ⟨k_t, ⟨r_t_home, k_t_home⟩, ⟨r_t_price, k_t_price⟩, ⟨r_t_attics, k_t_attics⟩, ⟨r_t_texts, k_t_texts⟩, ⟨r_t_counting, k_t_counting⟩, ⟨r_t_names, k_t_names⟩, ⟨r_t_pile, k_t_pile⟩, ⟨r_t_views, k_t_views⟩, a_t⟩ := id hT
  have s148 : ∀ m B, eqOn (26 + 5 * n) (tv m t) B → Frt t mi m → hEnd B = hourF lw n A → MW X fX5_passHour (rmOf 4 0 0) 0 0 148 [some (rf X t), none, none, none] [] S m (mQ X 0 0 (fun r S' m => r = none ∧ S' = S ∧ eqOn (26 + 5 * n) (tv m t) (hourF lw n A) ∧ Frt t mi m)) := by
    intro m B hB hF he
    refine mw_aload_n dX5_passHour_148 rfl ?_
    refine mw_dup dX5_passHour_149 rfl ?_
    refine mw_geti dX5_passHour_150 fl_X5_78 rfl (by assumption) ?_
    refine mw_iconst (v := 1) dX5_passHour_153 (by decide) ?_
    refine mw_iadd dX5_passHour_154 ?_
    refine mw_puti dX5_passHour_155 fl_X5_78 ft_5_10 rfl (rfl) rfl (by assumption) ?_
    exact mw_vret dX5_passHour_158 rfl (by decide) (by decide) (⟨rfl, rfl, by rw [← he, hEnd, ← tv_0 (j := 2) hB (by decide) (by omega)]; exact tv_up0 (j := 2) (by decide) hB, hF.up0⟩)
  have s107 : ∀ m B, eqOn (26 + 5 * n) (tv m t) B → Frt t mi m → B 1 = nI n → hEnd (hWage n B) = hourF lw n A → MW X fX5_passHour (rmOf 4 0 0) 0 0 107 [some (rf X t), none, none, none] [] S m (mQ X 0 0 (fun r S' m => r = none ∧ S' = S ∧ eqOn (26 + 5 * n) (tv m t) (hourF lw n A) ∧ Frt t mi m)) := by
    intro m B hB hF hB1 he
    have eh : m t 10 = B 2 := tv_0 (j := 2) hB (by decide) (by omega)
    have wl : jr (B 2) 24 = 6 → MW X fX5_passHour (rmOf 4 0 0) 0 0 121 [some (rf X t), none, none, some (.int (nI 0))] [] S m (mQ X 0 0 (fun r S' m => r = none ∧ S' = S ∧ eqOn (26 + 5 * n) (tv m t) (hourF lw n A) ∧ Frt t mi m)) := by
      intro h6
      have lp := mw_dn (P := fun k => ∀ m2, eqOn (26 + 5 * n) (tv m2 t) (wageTo B k) → Frt t mi m2 → MW X fX5_passHour (rmOf 4 0 0) 0 0 121 [some (rf X t), none, none, some (.int (nI k))] [] S m2 (mQ X 0 0 (fun r S' m => r = none ∧ S' = S ∧ eqOn (26 + 5 * n) (tv m t) (hourF lw n A) ∧ Frt t mi m))) n (by
        intro m2 h2 hF2
        have ec : m2 t 3 = nI n := by rw [show (3 : Nat) = tvF 1 from rfl, tv_0 h2 (by decide) (by omega), wageTo_lo (by decide), hB1]
        refine mw_iload_n dX5_passHour_121 rfl ?_
        refine mw_aload_n dX5_passHour_122 rfl ?_
        refine mw_geti dX5_passHour_123 fl_X5_59 rfl (by assumption) ?_
        refine mw_icmp_ge (tgt := 148) dX5_passHour_126 (by decide) (fun h126 => ?_) (fun h126 => ?_)
        · skip
          exact MW.back (s148 m2 _ h2 hF2 (by rw [← he, hWage, if_pos h6])) (by simp [lsub])
        · skip
          exact absurd (by rw [ec]; exact Int32.le_refl _) h126) (fun k hk ih => by
        intro m2 h2 hF2
        have ec : m2 t 3 = nI n := by rw [show (3 : Nat) = tvF 1 from rfl, tv_0 h2 (by decide) (by omega), wageTo_lo (by decide), hB1]
        have ew : m2 t 7 = wageTo B k 8 := tv_0 (j := 8) h2 (by decide) (by omega)
        have eco : m2 (t + 9 + k) 3 = wageTo B k (26 + 5 * k + 3) := tv_A h2 (by decide) (by omega)
        refine mw_iload_n dX5_passHour_121 rfl ?_
        refine mw_aload_n dX5_passHour_122 rfl ?_
        refine mw_geti dX5_passHour_123 fl_X5_59 rfl (by assumption) ?_
        refine mw_icmp_ge (tgt := 148) dX5_passHour_126 (by decide) (fun h126 => ?_) (fun h126 => ?_)
        · skip
          exact absurd h126 (by rw [ec]; exact nI_ge hk (by omega))
        · skip
          refine mw_aload_n dX5_passHour_129 rfl ?_
          refine mw_getr dX5_passHour_130 fl_X5_20 rfl (by assumption) (by assumption) ?_
          refine mw_iload_n dX5_passHour_133 rfl ?_
          refine mw_aldK (k := k) dX5_passHour_134 (by assumption) (by decide) (rfl) (by omega) (by decide) ((a_t k (by omega)).1) ?_
          refine mw_aload_n dX5_passHour_135 rfl ?_
          refine mw_geti dX5_passHour_136 fl_X5_28 rfl (by assumption) ?_
          refine mw_cVV (g := fX0_earn) dX5_passHour_139 ml_X5_109 mfX0_earn (ok_X0_earn (a_t k (by omega)).2) ((a_t k (by omega)).2) rfl rfl (Nat.le_of_ble_eq_true rfl) ⟨by decide, by decide⟩ ⟨by decide, by decide⟩ ?_
          refine mw_iincK (k := k) dX5_passHour_142 rfl rfl (by decide) ?_
          refine mw_goto (tgt := 121) dX5_passHour_145 (by decide) ?_
          refine MW.sub (by simp [lsub]) (ih _ ?_ (hF2.upA (by omega)))
          rw [ew, eco]
          exact tv_upA (by omega) (by decide) h2)
      exact lp m hB hF
    refine mw_aload_n dX5_passHour_107 rfl ?_
    refine mw_geti dX5_passHour_108 fl_X5_78 rfl (by assumption) ?_
    refine mw_bipush (v := 24) dX5_passHour_111 (by decide) ?_
    refine mw_irem dX5_passHour_113 (by decide) ?_
    refine mw_bipush (v := 6) dX5_passHour_114 (by decide) ?_
    rw [eh]
    refine mw_icmp_ne (tgt := 148) dX5_passHour_116 (by decide) (fun h116 => ?_) (fun h116 => ?_)
    · skip
      exact MW.back (s148 m B hB hF (by rw [← he, hWage, if_neg h116])) (by simp [lsub])
    · skip
      refine mw_iconst (v := 0) dX5_passHour_119 (by decide) ?_
      refine mw_istN 3 dX5_passHour_120 rfl (by decide) ?_
      exact MW.sub (by simp [lsub, nI_0]) (wl h116)
  have s78 : ∀ m B, eqOn (26 + 5 * n) (tv m t) B → Frt t mi m → B 1 = nI n → B 7 = A 7 → hEnd (hWage n (hSm A B)) = hourF lw n A → MW X fX5_passHour (rmOf 4 0 0) 0 0 78 [some (rf X t), none, some (.int (jus (nz1 (nz1 (A 0))) 8)), none] [] S m (mQ X 0 0 (fun r S' m => r = none ∧ S' = S ∧ eqOn (26 + 5 * n) (tv m t) (hourF lw n A) ∧ Frt t mi m)) := by
    intro m B hB hF hB1 hB7 he
    have es : m t 6 = A 7 := by rw [show (6 : Nat) = tvF 7 from rfl, tv_0 hB (by decide) (by omega), hB7]
    have ez : m t 11 = B 0 := tv_0 (j := 0) hB (by decide) (by omega)
    have ech : m t 4 = B 9 := tv_0 (j := 9) hB (by decide) (by omega)
    refine mw_iload_n dX5_passHour_78 rfl ?_
    refine mw_bipush (v := 100) dX5_passHour_79 (by decide) ?_
    refine mw_irem dX5_passHour_81 (by decide) ?_
    refine mw_aload_n dX5_passHour_82 rfl ?_
    refine mw_geti dX5_passHour_83 fl_X5_69 rfl (by assumption) ?_
    rw [es]
    refine mw_icmp_ge (tgt := 107) dX5_passHour_86 (by decide) (fun h86 => ?_) (fun h86 => ?_)
    · skip
      first
        | exact MW.sub (by simp [lsub]) (s107 m B hB hF hB1 (by rw [← he, hSm, if_neg (show ¬ dr2 A < A 7 from Int32.not_lt.mpr h86)]))
        | (rw [ez, ech]
           refine MW.sub (by simp [lsub]) (s107 _ _ (tv_up0 (j := 9) (by decide) (tv_up0 (j := 0) (by decide) hB)) hF.up0.up0 (by simp [upd, hB1]) ?_)
           rw [← he, hSm, if_pos (show dr2 A < A 7 from Int32.not_le.mp h86)])
    · skip
      refine mw_aload_n dX5_passHour_89 rfl ?_
      refine mw_dup dX5_passHour_90 rfl ?_
      refine mw_geti dX5_passHour_91 fl_X5_66 rfl (by assumption) ?_
      refine mw_iconst (v := 1) dX5_passHour_94 (by decide) ?_
      refine mw_aload_n dX5_passHour_95 rfl ?_
      refine mw_cVI (g := fX5_draw) dX5_passHour_96 ml_X5_89 mfX5_draw (ok_X5_draw hT) (by assumption) rfl rfl (Nat.le_of_ble_eq_true rfl) ⟨by decide, by decide⟩ ⟨by decide, by decide⟩ ?_
      refine mw_bipush (v := 24) dX5_passHour_99 (by decide) ?_
      refine mw_irem dX5_passHour_101 (by decide) ?_
      refine mw_ishl dX5_passHour_102 ?_
      refine mw_ixor dX5_passHour_103 ?_
      refine mw_puti dX5_passHour_104 fl_X5_66 ft_5_4 rfl (rfl) rfl (by assumption) ?_
      first
        | exact MW.sub (by simp [lsub]) (s107 m B hB hF hB1 (by rw [← he, hSm, if_neg (show ¬ dr2 A < A 7 from Int32.not_lt.mpr h86)]))
        | (rw [ez, ech]
           refine MW.sub (by simp [lsub]) (s107 _ _ (tv_up0 (j := 9) (by decide) (tv_up0 (j := 0) (by decide) hB)) hF.up0.up0 (by simp [upd, hB1]) ?_)
           rw [← he, hSm, if_pos (show dr2 A < A 7 from Int32.not_le.mp h86)])
  have e0 : mi t 11 = A 0 := tv_0 (j := 0) hA (by decide) (by omega)
  have e5 : mi t 5 = A 6 := tv_0 (j := 6) hA (by decide) (by omega)
  have e9 : mi t 9 = A 4 := tv_0 (j := 4) hA (by decide) (by omega)
  have hA1 : eqOn (26 + 5 * n) (tv (m_up mi t 11 (nz1 (nz1 (A 0)))) t) (hA0 A) := tv_up0 (j := 0) (by decide) hA
  have hF1 : Frt t mi (m_up mi t 11 (nz1 (nz1 (A 0)))) := (Frt.rf t mi).up0
  have pl : ¬ dr1 A < A 6 → MW X fX5_passHour (rmOf 4 0 0) 0 0 36 [some (rf X t), none, some (.int (jus (nz1 (nz1 (A 0))) 8)), some (.int (nI 0))] [] S (m_up mi t 11 (nz1 (nz1 (A 0)))) (mQ X 0 0 (fun r S' m => r = none ∧ S' = S ∧ eqOn (26 + 5 * n) (tv m t) (hourF lw n A) ∧ Frt t mi m)) := by
    intro hc
    have lp := mw_dn (P := fun k => ∀ m2, eqOn (26 + 5 * n) (tv m2 t) (paysTo lw (hA0 A) k) → Frt t mi m2 → MW X fX5_passHour (rmOf 4 0 0) 0 0 36 [some (rf X t), none, some (.int (jus (nz1 (nz1 (A 0))) 8)), some (.int (nI k))] [] S m2 (mQ X 0 0 (fun r S' m => r = none ∧ S' = S ∧ eqOn (26 + 5 * n) (tv m t) (hourF lw n A) ∧ Frt t mi m))) n (by
      intro m2 h2 hF2
      have ec : m2 t 3 = nI n := by rw [show (3 : Nat) = tvF 1 from rfl, tv_0 h2 (by decide) (by omega), paysTo_lo (by decide) (by decide)]; simp [hA0, upd, hn]
      refine mw_iload_n dX5_passHour_36 rfl ?_
      refine mw_aload_n dX5_passHour_37 rfl ?_
      refine mw_geti dX5_passHour_38 fl_X5_59 rfl (by assumption) ?_
      refine mw_icmp_ge (tgt := 78) dX5_passHour_41 (by decide) (fun h41 => ?_) (fun h41 => ?_)
      · skip
        exact MW.sub (by simp [lsub]) (s78 m2 _ h2 hF2 (by rw [paysTo_lo (by decide) (by decide)]; simp [hA0, upd, hn]) (by rw [paysTo_lo (by decide) (by decide)]; simp [hA0, upd]) (by rw [hourF, hPay, if_neg hc]))
      · skip
        exact absurd (by rw [ec]; exact Int32.le_refl _) h41) (fun k hk ih => by
      intro m2 h2 hF2
      have ec : m2 t 3 = nI n := by rw [show (3 : Nat) = tvF 1 from rfl, tv_0 h2 (by decide) (by omega), paysTo_lo (by decide) (by decide)]; simp [hA0, upd, hn]
      have hx2 := hx.fr hT hF2
      have hl2 : lwC S m2 t 0 = lw := (lwC_fr hT hx hF2).trans hl
      have er : cRent S m2 t (t + 9 + k) = rRent lw (paysTo lw (hA0 A) k) k := by rw [cRent_of h2 (by omega), hl2]
      have hka := (a_t k (by omega)).2
      refine mw_iload_n dX5_passHour_36 rfl ?_
      refine mw_aload_n dX5_passHour_37 rfl ?_
      refine mw_geti dX5_passHour_38 fl_X5_59 rfl (by assumption) ?_
      refine mw_icmp_ge (tgt := 78) dX5_passHour_41 (by decide) (fun h41 => ?_) (fun h41 => ?_)
      · skip
        exact absurd h41 (by rw [ec]; exact nI_ge hk (by omega))
      · skip
        refine mw_aload_n dX5_passHour_44 rfl ?_
        refine mw_dup dX5_passHour_45 rfl ?_
        refine mw_geti dX5_passHour_46 fl_X5_72 rfl (by assumption) ?_
        refine mw_aload_n dX5_passHour_49 rfl ?_
        refine mw_getr dX5_passHour_50 fl_X5_20 rfl (by assumption) (by assumption) ?_
        refine mw_iload_n dX5_passHour_53 rfl ?_
        refine mw_aldK (k := k) dX5_passHour_54 (by assumption) (by decide) (rfl) (by omega) (by decide) ((a_t k (by omega)).1) ?_
        refine mw_aload_n dX5_passHour_55 rfl ?_
        refine mw_aload_n dX5_passHour_56 rfl ?_
        refine mw_getr dX5_passHour_57 fl_X5_20 rfl (by assumption) (by assumption) ?_
        refine mw_iload_n dX5_passHour_60 rfl ?_
        refine mw_aldK (k := k) dX5_passHour_61 (by assumption) (by decide) (rfl) (by omega) (by decide) ((a_t k (by omega)).1) ?_
        refine mw_callV (g := fX5_rentOf) dX5_passHour_62 ml_X5_101 mfX5_rentOf (ok_rentOf hT hka hx2) (by assumption) rfl rfl (Nat.le_of_ble_eq_true rfl) ⟨by decide, by decide⟩ ⟨by decide, by decide⟩ (fun r S2 mi2 hp => ?_)
        obtain ⟨rfl, e1, hs⟩ := hp
        rw [e1, er]
        have h3 := tv_scr hs h2
        have et : m2 t 8 = paysTo lw (hA0 A) k 3 := tv_0 (j := 3) h2 (by decide) (by omega)
        have eco : mi2 (t + 9 + k) 3 = paysTo lw (hA0 A) k (26 + 5 * k + 3) := tv_A h3 (by decide) (by omega)
        have eow : mi2 (t + 9 + k) 4 = paysTo lw (hA0 A) k (26 + 5 * k + 4) := tv_A h3 (by decide) (by omega)
        refine mw_cVI (g := fX0_pay) dX5_passHour_65 ml_X5_105 mfX0_pay (ok_X0_pay hka) (hka) rfl rfl (Nat.le_of_ble_eq_true rfl) ⟨by decide, by decide⟩ ⟨by decide, by decide⟩ ?_
        rw [et, eco, eow]
        refine mw_iadd dX5_passHour_68 ?_
        refine mw_puti dX5_passHour_69 fl_X5_72 ft_5_8 rfl (rfl) rfl (by assumption) ?_
        refine mw_iincK (k := k) dX5_passHour_72 rfl rfl (by decide) ?_
        refine mw_goto (tgt := 36) dX5_passHour_75 (by decide) ?_
        exact MW.sub (by simp [lsub]) (ih _ (tv_up0 (j := 3) (by decide) (tv_upA (by omega) (by decide) (tv_upA (by omega) (by decide) h3))) ((((hF2.tr (Frt.scr hs)).upA (by omega)).upA (by omega)).up0)))
    exact lp _ hA1 hF1
  refine mw_aload_n dX5_passHour_0 rfl ?_
  refine mw_cVI (g := fX5_draw) dX5_passHour_1 ml_X5_89 mfX5_draw (ok_X5_draw hT) (by assumption) rfl rfl (Nat.le_of_ble_eq_true rfl) ⟨by decide, by decide⟩ ⟨by decide, by decide⟩ ?_
  refine mw_istN 1 dX5_passHour_4 rfl (by decide) ?_
  refine mw_aload_n dX5_passHour_5 rfl ?_
  refine mw_cVI (g := fX5_draw) dX5_passHour_6 ml_X5_89 mfX5_draw (ok_X5_draw hT) (by assumption) rfl rfl (Nat.le_of_ble_eq_true rfl) ⟨by decide, by decide⟩ ⟨by decide, by decide⟩ ?_
  rw [m_up_at, m_up_up, e0]
  refine mw_istN 2 dX5_passHour_9 rfl (by decide) ?_
  refine mw_iload_n dX5_passHour_10 rfl ?_
  refine mw_bipush (v := 100) dX5_passHour_11 (by decide) ?_
  refine mw_irem dX5_passHour_13 (by decide) ?_
  refine mw_aload_n dX5_passHour_14 rfl ?_
  refine mw_geti dX5_passHour_15 fl_X5_24 rfl (by assumption) ?_
  rw [m_up_of (show (5 : Nat) ≠ 11 by decide), e5]
  refine mw_icmp_ge (tgt := 34) dX5_passHour_18 (by decide) (fun h18 => ?_) (fun h18 => ?_)
  · skip
    refine mw_iconst (v := 0) dX5_passHour_34 (by decide) ?_
    refine mw_istN 3 dX5_passHour_35 rfl (by decide) ?_
    exact MW.sub (by simp [lsub, nI_0]) (pl (Int32.not_lt.mpr h18))
  · skip
    refine mw_aload_n dX5_passHour_21 rfl ?_
    refine mw_dup dX5_passHour_22 rfl ?_
    refine mw_geti dX5_passHour_23 fl_X5_75 rfl (by assumption) ?_
    rw [m_up_of (show (9 : Nat) ≠ 11 by decide), e9]
    refine mw_iconst (v := 1) dX5_passHour_26 (by decide) ?_
    refine mw_iadd dX5_passHour_27 ?_
    refine mw_puti dX5_passHour_28 fl_X5_75 ft_5_9 rfl (rfl) rfl (by assumption) ?_
    refine mw_goto (tgt := 78) dX5_passHour_31 (by decide) ?_
    exact MW.sub (by simp [lsub]) (s78 _ _ (tv_up0 (j := 4) (by decide) hA1) hF1.up0 (by simp [hA0, upd, hn]) (by simp [hA0, upd]) (by rw [hourF, hPay, if_pos (show dr1 A < A 6 from Int32.not_le.mp h18)]))
end
section
/-! how many bits: the model's loop -/
def pcN (v : Nat) : Nat := if h : v = 0 then 0 else v % 2 + pcN (v / 2)
termination_by v
decreasing_by omega
theorem pcN_0 : pcN 0 = 0 := by rw [pcN]; simp
theorem pcN_s {v : Nat} (h : v ≠ 0) : pcN v = v % 2 + pcN (v / 2) := by rw [pcN]; simp [h]
theorem pcN_2 (w : Nat) : pcN (2 * w) = pcN w := by
  by_cases h : w = 0
  · subst h; rfl
  · rw [pcN_s (by omega), show 2 * w % 2 = 0 by omega, show 2 * w / 2 = w by omega, Nat.zero_add]
theorem pcN_21 (w : Nat) : pcN (2 * w + 1) = pcN w + 1 := by
  rw [pcN_s (by omega), show (2 * w + 1) % 2 = 1 by omega, show (2 * w + 1) / 2 = w by omega, Nat.add_comm]
theorem land_2 (a b : Nat) : (2 * a) &&& (2 * b) = 2 * (a &&& b) := by
  apply Nat.eq_of_testBit_eq
  intro i
  cases i with
  | zero => simp [Nat.testBit_zero]
  | succ n => rw [Nat.testBit_and, Nat.testBit_succ, Nat.testBit_succ, Nat.testBit_succ, show 2 * a / 2 = a by omega, show 2 * b / 2 = b by omega, show 2 * (a &&& b) / 2 = (a &&& b) by omega, Nat.testBit_and]
theorem land_210 (a b : Nat) : (2 * a + 1) &&& (2 * b) = 2 * (a &&& b) := by
  apply Nat.eq_of_testBit_eq
  intro i
  cases i with
  | zero => simp [Nat.testBit_zero]
  | succ n => rw [Nat.testBit_and, Nat.testBit_succ, Nat.testBit_succ, Nat.testBit_succ, show (2 * a + 1) / 2 = a by omega, show 2 * b / 2 = b by omega, show 2 * (a &&& b) / 2 = (a &&& b) by omega, Nat.testBit_and]
theorem land_201 (a b : Nat) : (2 * a) &&& (2 * b + 1) = 2 * (a &&& b) := by
  rw [Nat.and_comm, land_210, Nat.and_comm]
theorem pcN_low : ∀ v, v ≠ 0 → pcN (v &&& (v - 1)) + 1 = pcN v := by
  intro v
  induction v using Nat.strongRecOn with
  | _ v ih =>
    intro hv
    obtain ⟨w, hw⟩ : ∃ w, v = 2 * w + 1 ∨ v = 2 * w := ⟨v / 2, by omega⟩
    rcases hw with rfl | rfl
    · rw [show 2 * w + 1 - 1 = 2 * w by omega, land_210, Nat.and_self, pcN_2, pcN_21]
    · have h1 : w ≠ 0 := by omega
      rw [show 2 * w - 1 = 2 * (w - 1) + 1 by omega, land_201, pcN_2, pcN_2]
      exact ih w (by omega) h1
theorem pcN_pos {v : Nat} (h : v ≠ 0) : 0 < pcN v := by have := pcN_low v h; omega
theorem pcN_le : ∀ (k v : Nat), v < 2 ^ k → pcN v ≤ k := by
  intro k
  induction k with
  | zero => intro v h; rw [show v = 0 by omega, pcN_0]; exact Nat.le_refl 0
  | succ k ih =>
    intro v h
    by_cases hv : v = 0
    · rw [hv, pcN_0]; omega
    · rw [pcN_s hv]
      have := ih (v / 2) (by rw [Nat.pow_succ] at h; omega)
      omega
def uV (x : Int32) : Nat := x.toBitVec.toNat
theorem uV_and (x y : Int32) : uV (x &&& y) = uV x &&& uV y := by unfold uV; rw [Int32.toBitVec_and, BitVec.toNat_and]
theorem uV_lt (x : Int32) : uV x < 2 ^ 32 := x.toBitVec.isLt
theorem uV_0 {x : Int32} : uV x = 0 ↔ x = 0 := by
  constructor
  · intro h
    apply Int32.toBitVec_inj.mp
    apply BitVec.eq_of_toNat_eq
    exact h
  · rintro rfl; rfl
theorem uV_dec {x : Int32} (h : ¬ x = 0) : uV (x - 1) = uV x - 1 := by
  have h0 : uV x ≠ 0 := fun q => h (uV_0.mp q)
  have hl := uV_lt x
  unfold uV at *
  rw [Int32.toBitVec_sub, BitVec.toNat_sub]
  have e : (1 : Int32).toBitVec.toNat = 1 := by decide
  rw [e]
  omega
def popI (x : Int32) : Int32 := nI (pcN (uV x))
end
section
theorem i_dec (x : Int32) : x + Int32.ofInt (-1) = x - 1 := by
  have e : Int32.ofInt (-1) = -1 := by decide
  rw [e, ← Int32.sub_eq_add_neg]
theorem dX7_bits_0 : decode fX7_bits.2.1 0 = .ok (.iconst 0, 1) := by decide +kernel
theorem dX7_bits_1 : decode fX7_bits.2.1 1 = .ok (.istore_n 1, 1) := by decide +kernel
theorem dX7_bits_2 : decode fX7_bits.2.1 2 = .ok (.iload_n 0, 1) := by decide +kernel
theorem dX7_bits_3 : decode fX7_bits.2.1 3 = .ok (.istore_n 2, 1) := by decide +kernel
theorem dX7_bits_4 : decode fX7_bits.2.1 4 = .ok (.iload_n 2, 1) := by decide +kernel
theorem dX7_bits_5 : decode fX7_bits.2.1 5 = .ok (.ifCond .eq 15, 3) := by decide +kernel
theorem dX7_bits_8 : decode fX7_bits.2.1 8 = .ok (.iinc 1 1, 3) := by decide +kernel
theorem dX7_bits_11 : decode fX7_bits.2.1 11 = .ok (.iload_n 2, 1) := by decide +kernel
theorem dX7_bits_12 : decode fX7_bits.2.1 12 = .ok (.iload_n 2, 1) := by decide +kernel
theorem dX7_bits_13 : decode fX7_bits.2.1 13 = .ok (.iconst 1, 1) := by decide +kernel
theorem dX7_bits_14 : decode fX7_bits.2.1 14 = .ok (.isub, 1) := by decide +kernel
theorem dX7_bits_15 : decode fX7_bits.2.1 15 = .ok (.iand, 1) := by decide +kernel
theorem dX7_bits_16 : decode fX7_bits.2.1 16 = .ok (.istore_n 2, 1) := by decide +kernel
theorem dX7_bits_17 : decode fX7_bits.2.1 17 = .ok (.goto (-13), 3) := by decide +kernel
theorem dX7_bits_20 : decode fX7_bits.2.1 20 = .ok (.iload_n 1, 1) := by decide +kernel
theorem dX7_bits_21 : decode fX7_bits.2.1 21 = .ok (.ireturn, 1) := by decide +kernel
set_option maxRecDepth 100000 in
set_option maxHeartbeats 4000000 in
theorem ok_X7_bits {X : Xb} {S : Sg} {mi : Mem} {x : Int32} : OkI 0 fX7_bits X [.int x] S mi (popI x) mi := by
  refine Ok.go [some (.int x), none, none] (by decide) (by simp [Value.category]) (Nat.le_of_ble_eq_true rfl) rfl ?_
  have loop : ∀ (q c : Nat) (r : Int32), pcN (uV r) = q → c + q = pcN (uV x) → MW X fX7_bits (rmOf 0 0 0) 0 0 4 [some (.int x), some (.int (nI c)), some (.int r)] [] S mi (mQ X 0 0 (pI (popI x) S mi)) := by
    intro q
    induction q with
    | zero =>
      intro c r hq hc
      have hr : r = 0 := uV_0.mp (Classical.not_not.mp fun h => by have := pcN_pos h; omega)
      refine mw_iload_n dX7_bits_4 rfl ?_
      refine mw_if_eq (tgt := 20) dX7_bits_5 (by decide) (fun h5 => ?_) (fun h5 => ?_)
      · skip
        refine mw_iload_n dX7_bits_20 rfl ?_
        exact mw_iret dX7_bits_21 rfl (by decide) (by decide) (⟨by simp only [popI, ← hc, Nat.add_zero], rfl, rfl⟩)
      · skip
        exact absurd hr h5
    | succ q ih =>
      intro c r hq hc
      refine mw_iload_n dX7_bits_4 rfl ?_
      refine mw_if_eq (tgt := 20) dX7_bits_5 (by decide) (fun h5 => ?_) (fun h5 => ?_)
      · skip
        rw [uV_0.mpr h5, pcN_0] at hq
        omega
      · skip
        refine mw_iincK (k := c) dX7_bits_8 rfl rfl (by decide) ?_
        refine mw_iload_n dX7_bits_11 rfl ?_
        refine mw_iload_n dX7_bits_12 rfl ?_
        refine mw_iconst (v := 1) dX7_bits_13 (by decide) ?_
        refine mw_isub dX7_bits_14 ?_
        refine mw_iand dX7_bits_15 ?_
        refine mw_istN 2 dX7_bits_16 rfl (by decide) ?_
        refine mw_goto (tgt := 4) dX7_bits_17 (by decide) ?_
        exact MW.sub (by simp [lsub]) (ih (c + 1) (r &&& (r - 1)) (by have := pcN_low (uV r) (fun q => h5 (uV_0.mp q)); rw [uV_and, uV_dec h5]; omega) (by omega))
  refine mw_iconst (v := 0) dX7_bits_0 (by decide) ?_
  refine mw_istN 1 dX7_bits_1 rfl (by decide) ?_
  refine mw_iload_n dX7_bits_2 rfl ?_
  refine mw_istN 2 dX7_bits_3 rfl (by decide) ?_
  exact MW.sub (by simp [lsub, nI_0]) (loop _ 0 x rfl (by omega))
def mPrices (price : Nat → Int32) (set : Int32) : Int32 := fld (fun s k => s + (if set >>> (nI k &&& 31) &&& 1 = 1 then price k else 0)) 0 8
theorem dX7_pricesOf_0 : decode fX7_pricesOf.2.1 0 = .ok (.iconst 0, 1) := by decide +kernel
theorem dX7_pricesOf_1 : decode fX7_pricesOf.2.1 1 = .ok (.istore_n 2, 1) := by decide +kernel
theorem dX7_pricesOf_2 : decode fX7_pricesOf.2.1 2 = .ok (.iconst 0, 1) := by decide +kernel
theorem dX7_pricesOf_3 : decode fX7_pricesOf.2.1 3 = .ok (.istore_n 3, 1) := by decide +kernel
theorem dX7_pricesOf_4 : decode fX7_pricesOf.2.1 4 = .ok (.iload_n 3, 1) := by decide +kernel
theorem dX7_pricesOf_5 : decode fX7_pricesOf.2.1 5 = .ok (.bipush 8, 2) := by decide +kernel
theorem dX7_pricesOf_7 : decode fX7_pricesOf.2.1 7 = .ok (.if_icmp .ge 34, 3) := by decide +kernel
theorem dX7_pricesOf_10 : decode fX7_pricesOf.2.1 10 = .ok (.iload_n 2, 1) := by decide +kernel
theorem dX7_pricesOf_11 : decode fX7_pricesOf.2.1 11 = .ok (.iload_n 1, 1) := by decide +kernel
theorem dX7_pricesOf_12 : decode fX7_pricesOf.2.1 12 = .ok (.iload_n 3, 1) := by decide +kernel
theorem dX7_pricesOf_13 : decode fX7_pricesOf.2.1 13 = .ok (.ishr, 1) := by decide +kernel
theorem dX7_pricesOf_14 : decode fX7_pricesOf.2.1 14 = .ok (.iconst 1, 1) := by decide +kernel
theorem dX7_pricesOf_15 : decode fX7_pricesOf.2.1 15 = .ok (.iand, 1) := by decide +kernel
theorem dX7_pricesOf_16 : decode fX7_pricesOf.2.1 16 = .ok (.iconst 1, 1) := by decide +kernel
theorem dX7_pricesOf_17 : decode fX7_pricesOf.2.1 17 = .ok (.if_icmp .ne 15, 3) := by decide +kernel
theorem dX7_pricesOf_20 : decode fX7_pricesOf.2.1 20 = .ok (.aload_n 0, 1) := by decide +kernel
theorem dX7_pricesOf_21 : decode fX7_pricesOf.2.1 21 = .ok (.getfield 9, 3) := by decide +kernel
theorem dX7_pricesOf_24 : decode fX7_pricesOf.2.1 24 = .ok (.bipush 18, 2) := by decide +kernel
theorem dX7_pricesOf_26 : decode fX7_pricesOf.2.1 26 = .ok (.iload_n 3, 1) := by decide +kernel
theorem dX7_pricesOf_27 : decode fX7_pricesOf.2.1 27 = .ok (.iadd, 1) := by decide +kernel
theorem dX7_pricesOf_28 : decode fX7_pricesOf.2.1 28 = .ok (.iaload, 1) := by decide +kernel
theorem dX7_pricesOf_29 : decode fX7_pricesOf.2.1 29 = .ok (.goto 4, 3) := by decide +kernel
theorem dX7_pricesOf_32 : decode fX7_pricesOf.2.1 32 = .ok (.iconst 0, 1) := by decide +kernel
theorem dX7_pricesOf_33 : decode fX7_pricesOf.2.1 33 = .ok (.iadd, 1) := by decide +kernel
theorem dX7_pricesOf_34 : decode fX7_pricesOf.2.1 34 = .ok (.istore_n 2, 1) := by decide +kernel
theorem dX7_pricesOf_35 : decode fX7_pricesOf.2.1 35 = .ok (.iinc 3 1, 3) := by decide +kernel
theorem dX7_pricesOf_38 : decode fX7_pricesOf.2.1 38 = .ok (.goto (-34), 3) := by decide +kernel
theorem dX7_pricesOf_41 : decode fX7_pricesOf.2.1 41 = .ok (.iload_n 2, 1) := by decide +kernel
theorem dX7_pricesOf_42 : decode fX7_pricesOf.2.1 42 = .ok (.ireturn, 1) := by decide +kernel
set_option maxRecDepth 100000 in
set_option maxHeartbeats 4000000 in
theorem ok_X7_pricesOf {X : Xb} {S : Sg} {mi : Mem} {o : Nat} {v : Int32} (hM : MdA S o) : OkI 0 fX7_pricesOf X [rf X o, .int v] S mi (mPrices (fun k => mi (o + 1) (18 + k)) v) mi := by
  refine Ok.go [some (rf X o), some (.int v), none, none] (by decide) (by simp [Value.category]) (Nat.le_of_ble_eq_true rfl) rfl ?_
  obtain ⟨k_o, ⟨r_o_now, k_o_now⟩, ⟨r_o_image, k_o_image⟩, ⟨r_o_aside, k_o_aside⟩, ⟨r_o_seen, k_o_seen⟩, ⟨r_o_unlike, k_o_unlike⟩, ⟨r_o_tape, k_o_tape⟩, ⟨r_o_keys, k_o_keys⟩, ⟨r_o_keyAt, k_o_keyAt⟩, ⟨r_o_code, k_o_code⟩, ⟨r_o_waits, k_o_waits⟩, ⟨r_o_tested, k_o_tested⟩, ⟨r_o_stack, k_o_stack⟩, ⟨r_o_facts, k_o_facts⟩, ⟨r_o_sorts, k_o_sorts⟩, ⟨r_o_sizes, k_o_sizes⟩, ⟨r_o_cells, k_o_cells⟩, ⟨r_o_holds, k_o_holds⟩, ⟨r_o_holdsA, k_o_holdsA⟩, ⟨r_o_holdsB, k_o_holdsB⟩, ⟨r_o_heldCells, k_o_heldCells⟩, ⟨r_o_moved, k_o_moved⟩, ⟨r_o_tells, k_o_tells⟩⟩ := id hM
  have lp := mw_dn (P := fun k => MW X fX7_pricesOf (rmOf 0 0 0) 0 0 4 [some (rf X o), some (.int v), some (.int (fld (fun s k => s + (if v >>> (nI k &&& 31) &&& 1 = 1 then mi (o + 1) (18 + k) else 0)) 0 k)), some (.int (nI k))] [] S mi (mQ X 0 0 (pI (mPrices (fun k => mi (o + 1) (18 + k)) v) S mi))) 8 (by
    refine mw_iload_n dX7_pricesOf_4 rfl ?_
    refine mw_bipush (v := 8) dX7_pricesOf_5 (by decide) ?_
    refine mw_icmp_ge (tgt := 41) dX7_pricesOf_7 (by decide) (fun h7 => ?_) (fun h7 => ?_)
    · skip
      refine mw_iload_n dX7_pricesOf_41 rfl ?_
      exact mw_iret dX7_pricesOf_42 rfl (by decide) (by decide) (⟨rfl, rfl, rfl⟩)
    · skip
      exact absurd (by decide) h7) (fun k hk ih => by
    refine mw_iload_n dX7_pricesOf_4 rfl ?_
    refine mw_bipush (v := 8) dX7_pricesOf_5 (by decide) ?_
    refine mw_icmp_ge (tgt := 41) dX7_pricesOf_7 (by decide) (fun h7 => ?_) (fun h7 => ?_)
    · skip
      exact absurd h7 (nI_ge (b := 8) (by omega) (by decide))
    · skip
      refine mw_iload_n dX7_pricesOf_10 rfl ?_
      refine mw_iload_n dX7_pricesOf_11 rfl ?_
      refine mw_iload_n dX7_pricesOf_12 rfl ?_
      refine mw_ishr dX7_pricesOf_13 ?_
      refine mw_iconst (v := 1) dX7_pricesOf_14 (by decide) ?_
      refine mw_iand dX7_pricesOf_15 ?_
      refine mw_iconst (v := 1) dX7_pricesOf_16 (by decide) ?_
      refine mw_icmp_ne (tgt := 32) dX7_pricesOf_17 (by decide) (fun h17 => ?_) (fun h17 => ?_)
      · skip
        refine mw_iconst (v := 0) dX7_pricesOf_32 (by decide) ?_
        refine mw_iadd dX7_pricesOf_33 ?_
        refine mw_istN 2 dX7_pricesOf_34 rfl (by decide) ?_
        refine mw_iincK (k := k) dX7_pricesOf_35 rfl rfl (by decide) ?_
        refine mw_goto (tgt := 4) dX7_pricesOf_38 (by decide) ?_
        exact MW.sub (by simp [lsub, fld, h17]) ih
      · skip
        refine mw_aload_n dX7_pricesOf_20 rfl ?_
        refine mw_getr dX7_pricesOf_21 fl_X7_9 rfl (by assumption) (by assumption) ?_
        refine mw_bipush (v := 18) dX7_pricesOf_24 (by decide) ?_
        refine mw_iload_n dX7_pricesOf_26 rfl ?_
        refine mw_iadd dX7_pricesOf_27 ?_
        refine mw_ialdK (k := 18 + k) dX7_pricesOf_28 (by assumption) (ix18 k) (by omega) (by decide) ?_
        refine mw_goto (tgt := 33) dX7_pricesOf_29 (by decide) ?_
        refine mw_iadd dX7_pricesOf_33 ?_
        refine mw_istN 2 dX7_pricesOf_34 rfl (by decide) ?_
        refine mw_iincK (k := k) dX7_pricesOf_35 rfl rfl (by decide) ?_
        refine mw_goto (tgt := 4) dX7_pricesOf_38 (by decide) ?_
        exact MW.sub (by simp [lsub, fld, h17]) ih)
  refine mw_iconst (v := 0) dX7_pricesOf_0 (by decide) ?_
  refine mw_istN 2 dX7_pricesOf_1 rfl (by decide) ?_
  refine mw_iconst (v := 0) dX7_pricesOf_2 (by decide) ?_
  refine mw_istN 3 dX7_pricesOf_3 rfl (by decide) ?_
  exact MW.sub (by simp [lsub, fld, nI_0]) lp
/-- the text that counts for a key, among the first n -/
def lastK (A : Nat → Int32) (key : Int32) : Nat → Option Nat
  | 0 => none
  | n + 1 => if A (66 + 2 * n) / 1000 = key then some n else lastK A key n
def lastI (A : Nat → Int32) (key : Int32) (n : Nat) : Int32 := match lastK A key n with
  | none => -1
  | some t => nI t
theorem lastK_lt {A : Nat → Int32} {key : Int32} {t : Nat} : ∀ n, lastK A key n = some t → t < n
  | 0, h => by cases h
  | n + 1, h => by
    simp only [lastK] at h
    split at h
    · cases h; omega
    · have := lastK_lt n h; omega
theorem nI_succ_ge (n : Nat) (h : n < 2 ^ 31) : ¬ nI n < 0 := nI_pos h
theorem dX7_counts_0 : decode fX7_counts.2.1 0 = .ok (.aload_n 0, 1) := by decide +kernel
theorem dX7_counts_1 : decode fX7_counts.2.1 1 = .ok (.getfield 9, 3) := by decide +kernel
theorem dX7_counts_4 : decode fX7_counts.2.1 4 = .ok (.iconst 5, 1) := by decide +kernel
theorem dX7_counts_5 : decode fX7_counts.2.1 5 = .ok (.iaload, 1) := by decide +kernel
theorem dX7_counts_6 : decode fX7_counts.2.1 6 = .ok (.iconst 1, 1) := by decide +kernel
theorem dX7_counts_7 : decode fX7_counts.2.1 7 = .ok (.isub, 1) := by decide +kernel
theorem dX7_counts_8 : decode fX7_counts.2.1 8 = .ok (.istore_n 2, 1) := by decide +kernel
theorem dX7_counts_9 : decode fX7_counts.2.1 9 = .ok (.iload_n 2, 1) := by decide +kernel
theorem dX7_counts_10 : decode fX7_counts.2.1 10 = .ok (.ifCond .lt 30, 3) := by decide +kernel
theorem dX7_counts_13 : decode fX7_counts.2.1 13 = .ok (.aload_n 0, 1) := by decide +kernel
theorem dX7_counts_14 : decode fX7_counts.2.1 14 = .ok (.getfield 9, 3) := by decide +kernel
theorem dX7_counts_17 : decode fX7_counts.2.1 17 = .ok (.bipush 66, 2) := by decide +kernel
theorem dX7_counts_19 : decode fX7_counts.2.1 19 = .ok (.iconst 2, 1) := by decide +kernel
theorem dX7_counts_20 : decode fX7_counts.2.1 20 = .ok (.iload_n 2, 1) := by decide +kernel
theorem dX7_counts_21 : decode fX7_counts.2.1 21 = .ok (.imul, 1) := by decide +kernel
theorem dX7_counts_22 : decode fX7_counts.2.1 22 = .ok (.iadd, 1) := by decide +kernel
theorem dX7_counts_23 : decode fX7_counts.2.1 23 = .ok (.iaload, 1) := by decide +kernel
theorem dX7_counts_24 : decode fX7_counts.2.1 24 = .ok (.sipush 1000, 3) := by decide +kernel
theorem dX7_counts_27 : decode fX7_counts.2.1 27 = .ok (.idiv, 1) := by decide +kernel
theorem dX7_counts_28 : decode fX7_counts.2.1 28 = .ok (.iload_n 1, 1) := by decide +kernel
theorem dX7_counts_29 : decode fX7_counts.2.1 29 = .ok (.if_icmp .ne 5, 3) := by decide +kernel
theorem dX7_counts_32 : decode fX7_counts.2.1 32 = .ok (.iload_n 2, 1) := by decide +kernel
theorem dX7_counts_33 : decode fX7_counts.2.1 33 = .ok (.ireturn, 1) := by decide +kernel
theorem dX7_counts_34 : decode fX7_counts.2.1 34 = .ok (.iinc 2 (-1), 3) := by decide +kernel
theorem dX7_counts_37 : decode fX7_counts.2.1 37 = .ok (.goto (-28), 3) := by decide +kernel
theorem dX7_counts_40 : decode fX7_counts.2.1 40 = .ok (.iconst (-1), 1) := by decide +kernel
theorem dX7_counts_41 : decode fX7_counts.2.1 41 = .ok (.ireturn, 1) := by decide +kernel
set_option maxRecDepth 100000 in
set_option maxHeartbeats 4000000 in
theorem ok_X7_counts {X : Xb} {S : Sg} {mi : Mem} {o n : Nat} {key : Int32} (hM : MdA S o) (hn : mi (o + 1) 5 = nI n) (hn14 : n ≤ 14) : OkI 0 fX7_counts X [rf X o, .int key] S mi (lastI (mi (o + 1)) key n) mi := by
  refine Ok.go [some (rf X o), some (.int key), none] (by decide) (by simp [Value.category]) (Nat.le_of_ble_eq_true rfl) rfl ?_
  obtain ⟨k_o, ⟨r_o_now, k_o_now⟩, ⟨r_o_image, k_o_image⟩, ⟨r_o_aside, k_o_aside⟩, ⟨r_o_seen, k_o_seen⟩, ⟨r_o_unlike, k_o_unlike⟩, ⟨r_o_tape, k_o_tape⟩, ⟨r_o_keys, k_o_keys⟩, ⟨r_o_keyAt, k_o_keyAt⟩, ⟨r_o_code, k_o_code⟩, ⟨r_o_waits, k_o_waits⟩, ⟨r_o_tested, k_o_tested⟩, ⟨r_o_stack, k_o_stack⟩, ⟨r_o_facts, k_o_facts⟩, ⟨r_o_sorts, k_o_sorts⟩, ⟨r_o_sizes, k_o_sizes⟩, ⟨r_o_cells, k_o_cells⟩, ⟨r_o_holds, k_o_holds⟩, ⟨r_o_holdsA, k_o_holdsA⟩, ⟨r_o_holdsB, k_o_holdsB⟩, ⟨r_o_heldCells, k_o_heldCells⟩, ⟨r_o_moved, k_o_moved⟩, ⟨r_o_tells, k_o_tells⟩⟩ := id hM
  have loop : ∀ k, k ≤ n → lastK (mi (o + 1)) key n = lastK (mi (o + 1)) key k → MW X fX7_counts (rmOf 0 0 0) 0 0 9 [some (rf X o), some (.int key), some (.int (nI k - 1))] [] S mi (mQ X 0 0 (pI (lastI (mi (o + 1)) key n) S mi)) := by
    intro k
    induction k with
    | zero =>
      intro hk he
      refine mw_iload_n dX7_counts_9 rfl ?_
      refine mw_if_lt (tgt := 40) dX7_counts_10 (by decide) (fun h10 => ?_) (fun h10 => ?_)
      · skip
        refine mw_iconst (v := (-1)) dX7_counts_40 (by decide) ?_
        exact mw_iret dX7_counts_41 rfl (by decide) (by decide) (⟨by rw [lastI, he]; rfl, rfl, rfl⟩)
      · skip
        exact absurd (by decide) h10
    | succ k ih =>
      intro hk he
      rw [nI_pred]
      simp only [lastK] at he
      refine mw_iload_n dX7_counts_9 rfl ?_
      refine mw_if_lt (tgt := 40) dX7_counts_10 (by decide) (fun h10 => ?_) (fun h10 => ?_)
      · skip
        exact absurd h10 (nI_pos (by omega))
      · skip
        refine mw_aload_n dX7_counts_13 rfl ?_
        refine mw_getr dX7_counts_14 fl_X7_9 rfl (by assumption) (by assumption) ?_
        refine mw_bipush (v := 66) dX7_counts_17 (by decide) ?_
        refine mw_iconst (v := 2) dX7_counts_19 (by decide) ?_
        refine mw_iload_n dX7_counts_20 rfl ?_
        refine mw_imul dX7_counts_21 ?_
        refine mw_iadd dX7_counts_22 ?_
        refine mw_ialdK (k := 66 + 2 * k) dX7_counts_23 (by assumption) (ix66 k) (by omega) (by decide) ?_
        refine mw_sipush (v := 1000) dX7_counts_24 (by decide) ?_
        refine mw_idiv dX7_counts_27 (by decide) ?_
        refine mw_iload_n dX7_counts_28 rfl ?_
        refine mw_icmp_ne (tgt := 34) dX7_counts_29 (by decide) (fun h29 => ?_) (fun h29 => ?_)
        · skip
          refine mw_iinc dX7_counts_34 rfl (by decide) (i_dec (nI k)) ?_
          refine mw_goto (tgt := 9) dX7_counts_37 (by decide) ?_
          exact MW.sub (by simp [lsub]) (ih (by omega) (by rw [he, if_neg h29]))
        · skip
          refine mw_iload_n dX7_counts_32 rfl ?_
          exact mw_iret dX7_counts_33 rfl (by decide) (by decide) (⟨by rw [lastI, he, if_pos h29], rfl, rfl⟩)
  refine mw_aload_n dX7_counts_0 rfl ?_
  refine mw_getr dX7_counts_1 fl_X7_9 rfl (by assumption) (by assumption) ?_
  refine mw_iconst (v := 5) dX7_counts_4 (by decide) ?_
  refine mw_ialdK (k := 5) dX7_counts_5 (by assumption) (rfl) (by decide) (by decide) ?_
  rw [hn]
  refine mw_iconst (v := 1) dX7_counts_6 (by decide) ?_
  refine mw_isub dX7_counts_7 ?_
  refine mw_istN 2 dX7_counts_8 rfl (by decide) ?_
  exact MW.sub (by simp [lsub]) (loop n (Nat.le_refl n) rfl)
/-- the model's law machine -/
def wStep (nm : Nat → Int32) (st : Nat × (Nat → Int32)) (x : Int32) : Nat × (Nat → Int32) :=
  if x < 0 then
    if x = -10 then (st.1, upd st.2 (st.1 - 1) (if st.2 (st.1 - 1) = 0 then 1 else 0))
    else (st.1 - 1, upd st.2 (st.1 - 2) (mTwo x (st.2 (st.1 - 2)) (st.2 (st.1 - 1))))
  else (st.1 + 1, upd st.2 st.1 (if 10000 ≤ x then nm (x - 10000).toNatClampNeg else x))
def wRun (nm s p : Nat → Int32) : Nat → Nat × (Nat → Int32)
  | 0 => (0, p)
  | k + 1 => wStep nm (wRun nm s p k) (s k)
def wDep (s : Nat → Int32) : Nat → Nat
  | 0 => 0
  | k + 1 => if s k < 0 then (if s k = -10 then wDep s k else wDep s k - 1) else wDep s k + 1
def WfM (s : Nat → Int32) (n : Nat) : Prop := 0 < n ∧ n ≤ 96 ∧ ∀ k, k < n → (s k < 0 → (s k = -10 → 1 ≤ wDep s k) ∧ (s k ≠ -10 → 2 ≤ wDep s k)) ∧ (10000 ≤ s k → vp_in (s k - 10000) 4)
theorem wDep_le (s : Nat → Int32) : ∀ k, wDep s k ≤ k
  | 0 => Nat.le_refl 0
  | k + 1 => by
    have := wDep_le s k
    simp only [wDep]
    grind
theorem wRun_dep (nm s p : Nat → Int32) : ∀ k, (wRun nm s p k).1 = wDep s k
  | 0 => rfl
  | k + 1 => by
    have := wRun_dep nm s p k
    simp only [wRun, wStep, wDep]
    grind
theorem dX7_worksOut_0 : decode fX7_worksOut.2.1 0 = .ok (.iconst 0, 1) := by decide +kernel
theorem dX7_worksOut_1 : decode fX7_worksOut.2.1 1 = .ok (.istore_n 2, 1) := by decide +kernel
theorem dX7_worksOut_2 : decode fX7_worksOut.2.1 2 = .ok (.aload_n 0, 1) := by decide +kernel
theorem dX7_worksOut_3 : decode fX7_worksOut.2.1 3 = .ok (.getfield 9, 3) := by decide +kernel
theorem dX7_worksOut_6 : decode fX7_worksOut.2.1 6 = .ok (.bipush 66, 2) := by decide +kernel
theorem dX7_worksOut_8 : decode fX7_worksOut.2.1 8 = .ok (.iconst 2, 1) := by decide +kernel
theorem dX7_worksOut_9 : decode fX7_worksOut.2.1 9 = .ok (.iload_n 1, 1) := by decide +kernel
theorem dX7_worksOut_10 : decode fX7_worksOut.2.1 10 = .ok (.imul, 1) := by decide +kernel
theorem dX7_worksOut_11 : decode fX7_worksOut.2.1 11 = .ok (.iadd, 1) := by decide +kernel
theorem dX7_worksOut_12 : decode fX7_worksOut.2.1 12 = .ok (.iaload, 1) := by decide +kernel
theorem dX7_worksOut_13 : decode fX7_worksOut.2.1 13 = .ok (.sipush 1000, 3) := by decide +kernel
theorem dX7_worksOut_16 : decode fX7_worksOut.2.1 16 = .ok (.irem, 1) := by decide +kernel
theorem dX7_worksOut_17 : decode fX7_worksOut.2.1 17 = .ok (.istore_n 3, 1) := by decide +kernel
theorem dX7_worksOut_18 : decode fX7_worksOut.2.1 18 = .ok (.iconst 0, 1) := by decide +kernel
theorem dX7_worksOut_19 : decode fX7_worksOut.2.1 19 = .ok (.istore 4, 2) := by decide +kernel
theorem dX7_worksOut_21 : decode fX7_worksOut.2.1 21 = .ok (.iload 4, 2) := by decide +kernel
theorem dX7_worksOut_23 : decode fX7_worksOut.2.1 23 = .ok (.iload_n 3, 1) := by decide +kernel
theorem dX7_worksOut_24 : decode fX7_worksOut.2.1 24 = .ok (.if_icmp .ge 131, 3) := by decide +kernel
theorem dX7_worksOut_27 : decode fX7_worksOut.2.1 27 = .ok (.aload_n 0, 1) := by decide +kernel
theorem dX7_worksOut_28 : decode fX7_worksOut.2.1 28 = .ok (.getfield 9, 3) := by decide +kernel
theorem dX7_worksOut_31 : decode fX7_worksOut.2.1 31 = .ok (.bipush 94, 2) := by decide +kernel
theorem dX7_worksOut_33 : decode fX7_worksOut.2.1 33 = .ok (.bipush 96, 2) := by decide +kernel
theorem dX7_worksOut_35 : decode fX7_worksOut.2.1 35 = .ok (.iload_n 1, 1) := by decide +kernel
theorem dX7_worksOut_36 : decode fX7_worksOut.2.1 36 = .ok (.imul, 1) := by decide +kernel
theorem dX7_worksOut_37 : decode fX7_worksOut.2.1 37 = .ok (.iadd, 1) := by decide +kernel
theorem dX7_worksOut_38 : decode fX7_worksOut.2.1 38 = .ok (.iload 4, 2) := by decide +kernel
theorem dX7_worksOut_40 : decode fX7_worksOut.2.1 40 = .ok (.iadd, 1) := by decide +kernel
theorem dX7_worksOut_41 : decode fX7_worksOut.2.1 41 = .ok (.iaload, 1) := by decide +kernel
theorem dX7_worksOut_42 : decode fX7_worksOut.2.1 42 = .ok (.istore 5, 2) := by decide +kernel
theorem dX7_worksOut_44 : decode fX7_worksOut.2.1 44 = .ok (.iload 5, 2) := by decide +kernel
theorem dX7_worksOut_46 : decode fX7_worksOut.2.1 46 = .ok (.ifCond .lt 39, 3) := by decide +kernel
theorem dX7_worksOut_49 : decode fX7_worksOut.2.1 49 = .ok (.aload_n 0, 1) := by decide +kernel
theorem dX7_worksOut_50 : decode fX7_worksOut.2.1 50 = .ok (.getfield 45, 3) := by decide +kernel
theorem dX7_worksOut_53 : decode fX7_worksOut.2.1 53 = .ok (.iload_n 2, 1) := by decide +kernel
theorem dX7_worksOut_54 : decode fX7_worksOut.2.1 54 = .ok (.iload 5, 2) := by decide +kernel
theorem dX7_worksOut_56 : decode fX7_worksOut.2.1 56 = .ok (.sipush 10000, 3) := by decide +kernel
theorem dX7_worksOut_59 : decode fX7_worksOut.2.1 59 = .ok (.if_icmp .ge 8, 3) := by decide +kernel
theorem dX7_worksOut_62 : decode fX7_worksOut.2.1 62 = .ok (.iload 5, 2) := by decide +kernel
theorem dX7_worksOut_64 : decode fX7_worksOut.2.1 64 = .ok (.goto 14, 3) := by decide +kernel
theorem dX7_worksOut_67 : decode fX7_worksOut.2.1 67 = .ok (.aload_n 0, 1) := by decide +kernel
theorem dX7_worksOut_68 : decode fX7_worksOut.2.1 68 = .ok (.getfield 48, 3) := by decide +kernel
theorem dX7_worksOut_71 : decode fX7_worksOut.2.1 71 = .ok (.iload 5, 2) := by decide +kernel
theorem dX7_worksOut_73 : decode fX7_worksOut.2.1 73 = .ok (.sipush 10000, 3) := by decide +kernel
theorem dX7_worksOut_76 : decode fX7_worksOut.2.1 76 = .ok (.isub, 1) := by decide +kernel
theorem dX7_worksOut_77 : decode fX7_worksOut.2.1 77 = .ok (.iaload, 1) := by decide +kernel
theorem dX7_worksOut_78 : decode fX7_worksOut.2.1 78 = .ok (.iastore, 1) := by decide +kernel
theorem dX7_worksOut_79 : decode fX7_worksOut.2.1 79 = .ok (.iinc 2 1, 3) := by decide +kernel
theorem dX7_worksOut_82 : decode fX7_worksOut.2.1 82 = .ok (.goto 67, 3) := by decide +kernel
theorem dX7_worksOut_85 : decode fX7_worksOut.2.1 85 = .ok (.iload 5, 2) := by decide +kernel
theorem dX7_worksOut_87 : decode fX7_worksOut.2.1 87 = .ok (.bipush (-10), 2) := by decide +kernel
theorem dX7_worksOut_89 : decode fX7_worksOut.2.1 89 = .ok (.if_icmp .ne 30, 3) := by decide +kernel
theorem dX7_worksOut_92 : decode fX7_worksOut.2.1 92 = .ok (.aload_n 0, 1) := by decide +kernel
theorem dX7_worksOut_93 : decode fX7_worksOut.2.1 93 = .ok (.getfield 45, 3) := by decide +kernel
theorem dX7_worksOut_96 : decode fX7_worksOut.2.1 96 = .ok (.iload_n 2, 1) := by decide +kernel
theorem dX7_worksOut_97 : decode fX7_worksOut.2.1 97 = .ok (.iconst 1, 1) := by decide +kernel
theorem dX7_worksOut_98 : decode fX7_worksOut.2.1 98 = .ok (.isub, 1) := by decide +kernel
theorem dX7_worksOut_99 : decode fX7_worksOut.2.1 99 = .ok (.aload_n 0, 1) := by decide +kernel
theorem dX7_worksOut_100 : decode fX7_worksOut.2.1 100 = .ok (.getfield 45, 3) := by decide +kernel
theorem dX7_worksOut_103 : decode fX7_worksOut.2.1 103 = .ok (.iload_n 2, 1) := by decide +kernel
theorem dX7_worksOut_104 : decode fX7_worksOut.2.1 104 = .ok (.iconst 1, 1) := by decide +kernel
theorem dX7_worksOut_105 : decode fX7_worksOut.2.1 105 = .ok (.isub, 1) := by decide +kernel
theorem dX7_worksOut_106 : decode fX7_worksOut.2.1 106 = .ok (.iaload, 1) := by decide +kernel
theorem dX7_worksOut_107 : decode fX7_worksOut.2.1 107 = .ok (.ifCond .ne 7, 3) := by decide +kernel
theorem dX7_worksOut_110 : decode fX7_worksOut.2.1 110 = .ok (.iconst 1, 1) := by decide +kernel
theorem dX7_worksOut_111 : decode fX7_worksOut.2.1 111 = .ok (.goto 4, 3) := by decide +kernel
theorem dX7_worksOut_114 : decode fX7_worksOut.2.1 114 = .ok (.iconst 0, 1) := by decide +kernel
theorem dX7_worksOut_115 : decode fX7_worksOut.2.1 115 = .ok (.iastore, 1) := by decide +kernel
theorem dX7_worksOut_116 : decode fX7_worksOut.2.1 116 = .ok (.goto 33, 3) := by decide +kernel
theorem dX7_worksOut_119 : decode fX7_worksOut.2.1 119 = .ok (.iinc 2 (-1), 3) := by decide +kernel
theorem dX7_worksOut_122 : decode fX7_worksOut.2.1 122 = .ok (.aload_n 0, 1) := by decide +kernel
theorem dX7_worksOut_123 : decode fX7_worksOut.2.1 123 = .ok (.getfield 45, 3) := by decide +kernel
theorem dX7_worksOut_126 : decode fX7_worksOut.2.1 126 = .ok (.iload_n 2, 1) := by decide +kernel
theorem dX7_worksOut_127 : decode fX7_worksOut.2.1 127 = .ok (.iconst 1, 1) := by decide +kernel
theorem dX7_worksOut_128 : decode fX7_worksOut.2.1 128 = .ok (.isub, 1) := by decide +kernel
theorem dX7_worksOut_129 : decode fX7_worksOut.2.1 129 = .ok (.iload 5, 2) := by decide +kernel
theorem dX7_worksOut_131 : decode fX7_worksOut.2.1 131 = .ok (.aload_n 0, 1) := by decide +kernel
theorem dX7_worksOut_132 : decode fX7_worksOut.2.1 132 = .ok (.getfield 45, 3) := by decide +kernel
theorem dX7_worksOut_135 : decode fX7_worksOut.2.1 135 = .ok (.iload_n 2, 1) := by decide +kernel
theorem dX7_worksOut_136 : decode fX7_worksOut.2.1 136 = .ok (.iconst 1, 1) := by decide +kernel
theorem dX7_worksOut_137 : decode fX7_worksOut.2.1 137 = .ok (.isub, 1) := by decide +kernel
theorem dX7_worksOut_138 : decode fX7_worksOut.2.1 138 = .ok (.iaload, 1) := by decide +kernel
theorem dX7_worksOut_139 : decode fX7_worksOut.2.1 139 = .ok (.aload_n 0, 1) := by decide +kernel
theorem dX7_worksOut_140 : decode fX7_worksOut.2.1 140 = .ok (.getfield 45, 3) := by decide +kernel
theorem dX7_worksOut_143 : decode fX7_worksOut.2.1 143 = .ok (.iload_n 2, 1) := by decide +kernel
theorem dX7_worksOut_144 : decode fX7_worksOut.2.1 144 = .ok (.iaload, 1) := by decide +kernel
theorem dX7_worksOut_145 : decode fX7_worksOut.2.1 145 = .ok (.invokestatic 259, 3) := by decide +kernel
theorem dX7_worksOut_148 : decode fX7_worksOut.2.1 148 = .ok (.iastore, 1) := by decide +kernel
theorem dX7_worksOut_149 : decode fX7_worksOut.2.1 149 = .ok (.iinc 4 1, 3) := by decide +kernel
theorem dX7_worksOut_152 : decode fX7_worksOut.2.1 152 = .ok (.goto (-131), 3) := by decide +kernel
theorem dX7_worksOut_155 : decode fX7_worksOut.2.1 155 = .ok (.aload_n 0, 1) := by decide +kernel
theorem dX7_worksOut_156 : decode fX7_worksOut.2.1 156 = .ok (.getfield 45, 3) := by decide +kernel
theorem dX7_worksOut_159 : decode fX7_worksOut.2.1 159 = .ok (.iconst 0, 1) := by decide +kernel
theorem dX7_worksOut_160 : decode fX7_worksOut.2.1 160 = .ok (.iaload, 1) := by decide +kernel
theorem dX7_worksOut_161 : decode fX7_worksOut.2.1 161 = .ok (.ireturn, 1) := by decide +kernel
set_option maxRecDepth 100000 in
set_option maxHeartbeats 4000000 in
theorem ok_X7_worksOut {X : Xb} {S : Sg} {mi : Mem} {o t n : Nat} (hM : MdA S o) (ht : t < 14) (hn : jr (mi (o + 1) (66 + 2 * t)) 1000 = nI n) (hw : WfM (fun k => mi (o + 1) (94 + 96 * t + k)) n) : OkI 1 fX7_worksOut X [rf X o, .int (nI t)] S mi ((wRun (mi (o + 13)) (fun k => mi (o + 1) (94 + 96 * t + k)) (mi (o + 12)) n).2 0) (m_row mi (o + 12) (wRun (mi (o + 13)) (fun k => mi (o + 1) (94 + 96 * t + k)) (mi (o + 12)) n).2) := by
  refine Ok.go [some (rf X o), some (.int (nI t)), none, none, none, none] (by decide) (by simp [Value.category]) (Nat.le_of_ble_eq_true rfl) rfl ?_
  obtain ⟨k_o, ⟨r_o_now, k_o_now⟩, ⟨r_o_image, k_o_image⟩, ⟨r_o_aside, k_o_aside⟩, ⟨r_o_seen, k_o_seen⟩, ⟨r_o_unlike, k_o_unlike⟩, ⟨r_o_tape, k_o_tape⟩, ⟨r_o_keys, k_o_keys⟩, ⟨r_o_keyAt, k_o_keyAt⟩, ⟨r_o_code, k_o_code⟩, ⟨r_o_waits, k_o_waits⟩, ⟨r_o_tested, k_o_tested⟩, ⟨r_o_stack, k_o_stack⟩, ⟨r_o_facts, k_o_facts⟩, ⟨r_o_sorts, k_o_sorts⟩, ⟨r_o_sizes, k_o_sizes⟩, ⟨r_o_cells, k_o_cells⟩, ⟨r_o_holds, k_o_holds⟩, ⟨r_o_holdsA, k_o_holdsA⟩, ⟨r_o_holdsB, k_o_holdsB⟩, ⟨r_o_heldCells, k_o_heldCells⟩, ⟨r_o_moved, k_o_moved⟩, ⟨r_o_tells, k_o_tells⟩⟩ := id hM
  have hn96 := hw.2.1
  have n1 : o + 1 ≠ o + 12 := by omega
  have n13 : o + 13 ≠ o + 12 := by omega
  have lp := mw_dn (P := fun k => MW X fX7_worksOut (rmOf 1 0 0) 0 0 21 [some (rf X o), some (.int (nI t)), some (.int (nI (wRun (mi (o + 13)) (fun k => mi (o + 1) (94 + 96 * t + k)) (mi (o + 12)) k).1)), some (.int (nI n)), some (.int (nI k)), none] [] S (m_row mi (o + 12) (wRun (mi (o + 13)) (fun k => mi (o + 1) (94 + 96 * t + k)) (mi (o + 12)) k).2) (mQ X 0 0 (pI ((wRun (mi (o + 13)) (fun k => mi (o + 1) (94 + 96 * t + k)) (mi (o + 12)) n).2 0) S (m_row mi (o + 12) (wRun (mi (o + 13)) (fun k => mi (o + 1) (94 + 96 * t + k)) (mi (o + 12)) n).2)))) n (by
    refine mw_iload dX7_worksOut_21 rfl ?_
    refine mw_iload_n dX7_worksOut_23 rfl ?_
    refine mw_icmp_ge (tgt := 155) dX7_worksOut_24 (by decide) (fun h24 => ?_) (fun h24 => ?_)
    · skip
      refine mw_aload_n dX7_worksOut_155 rfl ?_
      refine mw_getr dX7_worksOut_156 fl_X7_45 rfl (by assumption) (by assumption) ?_
      refine mw_iconst (v := 0) dX7_worksOut_159 (by decide) ?_
      refine mw_ialdK (k := 0) dX7_worksOut_160 (by assumption) (rfl) (by decide) (by decide) ?_
      exact mw_iret dX7_worksOut_161 rfl (by decide) (by decide) (⟨by rw [m_row_self], rfl, rfl⟩)
    · skip
      exact absurd (Int32.le_refl _) h24) (fun k hk ih => by
    have hwk := hw.2.2 k hk
    have hdp := wRun_dep (mi (o + 13)) (fun k => mi (o + 1) (94 + 96 * t + k)) (mi (o + 12)) k
    have hle := wDep_le (fun k => mi (o + 1) (94 + 96 * t + k)) k
    have hrun : wRun (mi (o + 13)) (fun k => mi (o + 1) (94 + 96 * t + k)) (mi (o + 12)) (k + 1) = wStep (mi (o + 13)) (wRun (mi (o + 13)) (fun k => mi (o + 1) (94 + 96 * t + k)) (mi (o + 12)) k) (mi (o + 1) (94 + 96 * t + k)) := rfl
    rw [hrun] at ih
    generalize wDep (fun k => mi (o + 1) (94 + 96 * t + k)) k = dd at hwk hdp hle
    generalize wRun (mi (o + 13)) (fun k => mi (o + 1) (94 + 96 * t + k)) (mi (o + 12)) k = g at ih hdp ⊢
    obtain ⟨h, f⟩ := g
    simp only at hdp hwk
    subst hdp
    generalize hx : mi (o + 1) (94 + 96 * t + k) = x at ih hwk
    simp only at ih ⊢
    refine mw_iload dX7_worksOut_21 rfl ?_
    refine mw_iload_n dX7_worksOut_23 rfl ?_
    refine mw_icmp_ge (tgt := 155) dX7_worksOut_24 (by decide) (fun h24 => ?_) (fun h24 => ?_)
    · skip
      exact absurd h24 (nI_ge hk (by omega))
    · skip
      refine mw_aload_n dX7_worksOut_27 rfl ?_
      refine mw_getr dX7_worksOut_28 fl_X7_9 rfl (by assumption) (by assumption) ?_
      refine mw_bipush (v := 94) dX7_worksOut_31 (by decide) ?_
      refine mw_bipush (v := 96) dX7_worksOut_33 (by decide) ?_
      refine mw_iload_n dX7_worksOut_35 rfl ?_
      refine mw_imul dX7_worksOut_36 ?_
      refine mw_iadd dX7_worksOut_37 ?_
      refine mw_iload dX7_worksOut_38 rfl ?_
      refine mw_iadd dX7_worksOut_40 ?_
      refine mw_ialdK (k := 94 + 96 * t + k) dX7_worksOut_41 (by assumption) (ix94 t k) (by omega) (by decide) ?_
      rw [m_row_ne n1, hx]
      refine mw_istore dX7_worksOut_42 (by decide) ?_
      refine mw_iload dX7_worksOut_44 rfl ?_
      refine mw_if_lt (tgt := 85) dX7_worksOut_46 (by decide) (fun h46 => ?_) (fun h46 => ?_)
      · skip
        refine mw_iload dX7_worksOut_85 rfl ?_
        refine mw_bipush (v := (-10)) dX7_worksOut_87 (by decide) ?_
        refine mw_icmp_ne (tgt := 119) dX7_worksOut_89 (by decide) (fun h89 => ?_) (fun h89 => ?_)
        · skip
          have hh : 2 ≤ h := (hwk.1 h46).2 h89
          refine mw_iinc dX7_worksOut_119 rfl (by decide) (nI_dec (show 1 ≤ h by omega)) ?_
          refine mw_aload_n dX7_worksOut_122 rfl ?_
          refine mw_getr dX7_worksOut_123 fl_X7_45 rfl (by assumption) (by assumption) ?_
          refine mw_iload_n dX7_worksOut_126 rfl ?_
          refine mw_iconst (v := 1) dX7_worksOut_127 (by decide) ?_
          refine mw_isub dX7_worksOut_128 ?_
          refine mw_iload dX7_worksOut_129 rfl ?_
          refine mw_aload_n dX7_worksOut_131 rfl ?_
          refine mw_getr dX7_worksOut_132 fl_X7_45 rfl (by assumption) (by assumption) ?_
          refine mw_iload_n dX7_worksOut_135 rfl ?_
          refine mw_iconst (v := 1) dX7_worksOut_136 (by decide) ?_
          refine mw_isub dX7_worksOut_137 ?_
          refine mw_ialdK (k := h - 2) dX7_worksOut_138 (by assumption) (by rw [nI_sub1 (by omega)]; rfl) (by omega) (by decide) ?_
          rw [m_row_self]
          refine mw_aload_n dX7_worksOut_139 rfl ?_
          refine mw_getr dX7_worksOut_140 fl_X7_45 rfl (by assumption) (by assumption) ?_
          refine mw_iload_n dX7_worksOut_143 rfl ?_
          refine mw_ialdK (k := h - 1) dX7_worksOut_144 (by assumption) (rfl) (by omega) (by decide) ?_
          rw [m_row_self]
          refine mw_cSI (g := fX7_two) dX7_worksOut_145 ml_X7_259 mfX7_two (ok_X7_two) rfl rfl (Nat.le_of_ble_eq_true rfl) ⟨by decide, by decide⟩ ⟨by decide, by decide⟩ ?_
          refine mw_iastK (k := h - 2) dX7_worksOut_148 (by assumption) (by rw [nI_sub1 (by omega)]; rfl) (by omega) (by decide) ?_
          refine mw_iincK (k := k) dX7_worksOut_149 rfl rfl (by decide) ?_
          refine mw_goto (tgt := 21) dX7_worksOut_152 (by decide) ?_
          refine MW.back ih ?_
          simp [lsub, wStep, m_up_mrow, *] <;> grind
        · skip
          have hh : 1 ≤ h := (hwk.1 h46).1 h89
          refine mw_aload_n dX7_worksOut_92 rfl ?_
          refine mw_getr dX7_worksOut_93 fl_X7_45 rfl (by assumption) (by assumption) ?_
          refine mw_iload_n dX7_worksOut_96 rfl ?_
          refine mw_iconst (v := 1) dX7_worksOut_97 (by decide) ?_
          refine mw_isub dX7_worksOut_98 ?_
          refine mw_aload_n dX7_worksOut_99 rfl ?_
          refine mw_getr dX7_worksOut_100 fl_X7_45 rfl (by assumption) (by assumption) ?_
          refine mw_iload_n dX7_worksOut_103 rfl ?_
          refine mw_iconst (v := 1) dX7_worksOut_104 (by decide) ?_
          refine mw_isub dX7_worksOut_105 ?_
          refine mw_ialdK (k := h - 1) dX7_worksOut_106 (by assumption) (nI_sub1 hh) (by omega) (by decide) ?_
          rw [m_row_self]
          refine mw_if_ne (tgt := 114) dX7_worksOut_107 (by decide) (fun h107 => ?_) (fun h107 => ?_)
          · skip
            refine mw_iconst (v := 0) dX7_worksOut_114 (by decide) ?_
            refine mw_iastK (k := h - 1) dX7_worksOut_115 (by assumption) (nI_sub1 hh) (by omega) (by decide) ?_
            refine mw_goto (tgt := 149) dX7_worksOut_116 (by decide) ?_
            refine mw_iincK (k := k) dX7_worksOut_149 rfl rfl (by decide) ?_
            refine mw_goto (tgt := 21) dX7_worksOut_152 (by decide) ?_
            refine MW.back ih ?_
            simp [lsub, wStep, m_up_mrow, *] <;> grind
          · skip
            refine mw_iconst (v := 1) dX7_worksOut_110 (by decide) ?_
            refine mw_goto (tgt := 115) dX7_worksOut_111 (by decide) ?_
            refine mw_iastK (k := h - 1) dX7_worksOut_115 (by assumption) (nI_sub1 hh) (by omega) (by decide) ?_
            refine mw_goto (tgt := 149) dX7_worksOut_116 (by decide) ?_
            refine mw_iincK (k := k) dX7_worksOut_149 rfl rfl (by decide) ?_
            refine mw_goto (tgt := 21) dX7_worksOut_152 (by decide) ?_
            refine MW.back ih ?_
            simp [lsub, wStep, m_up_mrow, *] <;> grind
      · skip
        refine mw_aload_n dX7_worksOut_49 rfl ?_
        refine mw_getr dX7_worksOut_50 fl_X7_45 rfl (by assumption) (by assumption) ?_
        refine mw_iload_n dX7_worksOut_53 rfl ?_
        refine mw_iload dX7_worksOut_54 rfl ?_
        refine mw_sipush (v := 10000) dX7_worksOut_56 (by decide) ?_
        refine mw_icmp_ge (tgt := 67) dX7_worksOut_59 (by decide) (fun h59 => ?_) (fun h59 => ?_)
        · skip
          refine mw_aload_n dX7_worksOut_67 rfl ?_
          refine mw_getr dX7_worksOut_68 fl_X7_48 rfl (by assumption) (by assumption) ?_
          refine mw_iload dX7_worksOut_71 rfl ?_
          refine mw_sipush (v := 10000) dX7_worksOut_73 (by decide) ?_
          refine mw_isub dX7_worksOut_76 ?_
          refine mw_iald dX7_worksOut_77 k_o_facts (hwk.2 h59) ?_
          rw [m_row_ne n13]
          refine mw_iastK (k := h) dX7_worksOut_78 (by assumption) (rfl) (by omega) (by decide) ?_
          refine mw_iincK (k := h) dX7_worksOut_79 rfl rfl (by decide) ?_
          refine mw_goto (tgt := 149) dX7_worksOut_82 (by decide) ?_
          refine mw_iincK (k := k) dX7_worksOut_149 rfl rfl (by decide) ?_
          refine mw_goto (tgt := 21) dX7_worksOut_152 (by decide) ?_
          refine MW.back ih ?_
          simp [lsub, wStep, m_up_mrow, *] <;> grind
        · skip
          refine mw_iload dX7_worksOut_62 rfl ?_
          refine mw_goto (tgt := 78) dX7_worksOut_64 (by decide) ?_
          refine mw_iastK (k := h) dX7_worksOut_78 (by assumption) (rfl) (by omega) (by decide) ?_
          refine mw_iincK (k := h) dX7_worksOut_79 rfl rfl (by decide) ?_
          refine mw_goto (tgt := 149) dX7_worksOut_82 (by decide) ?_
          refine mw_iincK (k := k) dX7_worksOut_149 rfl rfl (by decide) ?_
          refine mw_goto (tgt := 21) dX7_worksOut_152 (by decide) ?_
          refine MW.back ih ?_
          simp [lsub, wStep, m_up_mrow, *] <;> grind)
  refine mw_iconst (v := 0) dX7_worksOut_0 (by decide) ?_
  refine mw_istN 2 dX7_worksOut_1 rfl (by decide) ?_
  refine mw_aload_n dX7_worksOut_2 rfl ?_
  refine mw_getr dX7_worksOut_3 fl_X7_9 rfl (by assumption) (by assumption) ?_
  refine mw_bipush (v := 66) dX7_worksOut_6 (by decide) ?_
  refine mw_iconst (v := 2) dX7_worksOut_8 (by decide) ?_
  refine mw_iload_n dX7_worksOut_9 rfl ?_
  refine mw_imul dX7_worksOut_10 ?_
  refine mw_iadd dX7_worksOut_11 ?_
  refine mw_ialdK (k := 66 + 2 * t) dX7_worksOut_12 (by assumption) (ix66 t) (by omega) (by decide) ?_
  refine mw_sipush (v := 1000) dX7_worksOut_13 (by decide) ?_
  refine mw_irem dX7_worksOut_16 (by decide) ?_
  rw [hn]
  refine mw_istN 3 dX7_worksOut_17 rfl (by decide) ?_
  refine mw_iconst (v := 0) dX7_worksOut_18 (by decide) ?_
  refine mw_istore dX7_worksOut_19 (by decide) ?_
  refine MW.back lp ⟨by simp [lsub, nI_0, wRun], rfl, rfl, ?_⟩
  simp only [wRun, m_row_id]
end
section
/-! the model's laws as functions of their names -/
theorem wRun_wf {s : Nat → Int32} {n : Nat} (h : WfM s n) (nm nm' p p' : Nat → Int32) (hnm : ∀ j, j < 4 → nm j = nm' j) : ∀ k, k ≤ n → (∀ j, j < wDep s k → (wRun nm s p k).2 j = (wRun nm' s p' k).2 j) ∧ (0 < k → 0 < wDep s k)
  | 0, _ => ⟨fun j hj => absurd hj (Nat.not_lt_zero j), fun q => absurd q (Nat.lt_irrefl 0)⟩
  | k + 1, hk => by
    obtain ⟨i3, i4⟩ := wRun_wf h nm nm' p p' hnm k (by omega)
    have hw := h.2.2 k (by omega)
    have i1 := wRun_dep nm s p k
    have i2 := wRun_dep nm' s p' k
    by_cases c1 : s k < 0
    · by_cases c2 : s k = -10
      · have g1 := (hw.1 c1).1 c2
        simp only [wRun, wStep, wDep, c2, show (-10 : Int32) < 0 from by decide, if_true, i1, i2]
        refine ⟨fun j hj => ?_, fun _ => by omega⟩
        simp only [upd, i3 (wDep s k - 1) (by omega)]
        by_cases hj2 : j = wDep s k - 1
        · simp [hj2]
        · simp [hj2, i3 j hj]
      · have g1 := (hw.1 c1).2 c2
        simp only [wRun, wStep, wDep, c1, c2, if_true, if_false, i1, i2]
        refine ⟨fun j hj => ?_, fun _ => by omega⟩
        simp only [upd, i3 (wDep s k - 1) (by omega), i3 (wDep s k - 2) (by omega)]
        by_cases hj2 : j = wDep s k - 2
        · simp [hj2]
        · simp [hj2, i3 j (by omega)]
    · simp only [wRun, wStep, wDep, c1, if_false, i1, i2]
      refine ⟨fun j hj => ?_, fun _ => by omega⟩
      simp only [upd]
      by_cases hj2 : j = wDep s k
      · by_cases c3 : 10000 ≤ s k
        · have : (s k - 10000).toNatClampNeg < 4 := Nat.not_le.mp fun q => hw.2 c3 (Or.inr q)
          simp [hj2, c3, hnm _ this]
        · simp [hj2, c3]
      · simp [hj2, i3 j (by omega)]
def lawM (s : Nat → Int32) (n : Nat) (a b c d : Int32) : Int32 := (wRun (c4 a b c d) s (fun _ => 0) n).2 0
theorem wRun_law {s : Nat → Int32} {n : Nat} (h : WfM s n) {nm p : Nat → Int32} {a b c d : Int32} (h0 : nm 0 = a) (h1 : nm 1 = b) (h2 : nm 2 = c) (h3 : nm 3 = d) : (wRun nm s p n).2 0 = lawM s n a b c d := by
  obtain ⟨i3, i4⟩ := wRun_wf h nm (c4 a b c d) p (fun _ => 0) (fun j hj => by
    have : j = 0 ∨ j = 1 ∨ j = 2 ∨ j = 3 := by omega
    rcases this with rfl | rfl | rfl | rfl <;> simp [c4, *]) n (Nat.le_refl n)
  exact i3 0 (i4 h.1)
def mLen (A : Nat → Int32) (t : Nat) : Nat := (jr (A (66 + 2 * t)) 1000).toNatClampNeg
/-- the texts of a row are texts -/
def MtOk (A : Nat → Int32) (n : Nat) : Prop := ∀ t, t < n → jr (A (66 + 2 * t)) 1000 = nI (mLen A t) ∧ WfM (fun k => A (94 + 96 * t + k)) (mLen A t)
def lwM (A : Nat → Int32) (key : Int32) (n : Nat) : LawT := (lastK A key n).map (fun t => lawM (fun k => A (94 + 96 * t + k)) (mLen A t))
def mPlainF (lw : LawT) (prices bits hour wide : Int32) : Int32 := match lw with
  | none => prices
  | some f => clampI (f prices bits hour wide) 0 9999
def mRentP (kind seen plain : Int32) : Int32 := if kind = 1 then (if 0 < plain then plain - 1 else 0) else if kind = 2 then plain + 3 else if kind = 3 then (if 0 < plain then plain - 1 else 0) / 2 else if kind = 4 then plain + 3 + popI seen else plain
def mRent (lw : LawT) (A : Nat → Int32) (a : Nat) : Int32 := mRentP (A (26 + 5 * a)) (rSees A a) (mPlainF lw (mPrices (fun k => A (18 + k)) (rSees A a)) (popI (rSees A a)) (A 2) (mWide (A 2) (A (26 + 5 * a)) (A (26 + 5 * a + 2))))
/-- only the model's scratch rows may differ -/
def ScrM (o : Nat) (mi m : Mem) : Prop := ∀ a, a ≠ o + 12 → a ≠ o + 13 → m a = mi a
theorem ScrM.rf (o : Nat) (mi : Mem) : ScrM o mi mi := fun _ _ _ => rfl
theorem ScrM.tr {o : Nat} {a b c : Mem} (h : ScrM o a b) (k : ScrM o b c) : ScrM o a c := fun x h1 h2 => (k x h1 h2).trans (h x h1 h2)
theorem ScrM.up {o k : Nat} {a b : Mem} {v : Int32} (h : ScrM o a b) : ScrM o a (m_up b (o + 13) k v) := fun x h1 h2 => by rw [m_up_ne h2]; exact h x h1 h2
theorem ScrM.row {o : Nat} {a b : Mem} {f : Nat → Int32} (h : ScrM o a b) : ScrM o a (m_row b (o + 12) f) := fun x h1 h2 => by rw [m_row_ne h1]; exact h x h1 h2
end
section
theorem dX7_rentOf_0 : decode fX7_rentOf.2.1 0 = .ok (.aload_n 0, 1) := by decide +kernel
theorem dX7_rentOf_1 : decode fX7_rentOf.2.1 1 = .ok (.iload_n 1, 1) := by decide +kernel
theorem dX7_rentOf_2 : decode fX7_rentOf.2.1 2 = .ok (.invokevirtual 104, 3) := by decide +kernel
theorem dX7_rentOf_5 : decode fX7_rentOf.2.1 5 = .ok (.istore_n 2, 1) := by decide +kernel
theorem dX7_rentOf_6 : decode fX7_rentOf.2.1 6 = .ok (.aload_n 0, 1) := by decide +kernel
theorem dX7_rentOf_7 : decode fX7_rentOf.2.1 7 = .ok (.iconst 0, 1) := by decide +kernel
theorem dX7_rentOf_8 : decode fX7_rentOf.2.1 8 = .ok (.invokevirtual 107, 3) := by decide +kernel
theorem dX7_rentOf_11 : decode fX7_rentOf.2.1 11 = .ok (.istore_n 3, 1) := by decide +kernel
theorem dX7_rentOf_12 : decode fX7_rentOf.2.1 12 = .ok (.aload_n 0, 1) := by decide +kernel
theorem dX7_rentOf_13 : decode fX7_rentOf.2.1 13 = .ok (.getfield 48, 3) := by decide +kernel
theorem dX7_rentOf_16 : decode fX7_rentOf.2.1 16 = .ok (.iconst 0, 1) := by decide +kernel
theorem dX7_rentOf_17 : decode fX7_rentOf.2.1 17 = .ok (.aload_n 0, 1) := by decide +kernel
theorem dX7_rentOf_18 : decode fX7_rentOf.2.1 18 = .ok (.iload_n 2, 1) := by decide +kernel
theorem dX7_rentOf_19 : decode fX7_rentOf.2.1 19 = .ok (.invokevirtual 110, 3) := by decide +kernel
theorem dX7_rentOf_22 : decode fX7_rentOf.2.1 22 = .ok (.iastore, 1) := by decide +kernel
theorem dX7_rentOf_23 : decode fX7_rentOf.2.1 23 = .ok (.aload_n 0, 1) := by decide +kernel
theorem dX7_rentOf_24 : decode fX7_rentOf.2.1 24 = .ok (.getfield 48, 3) := by decide +kernel
theorem dX7_rentOf_27 : decode fX7_rentOf.2.1 27 = .ok (.iconst 1, 1) := by decide +kernel
theorem dX7_rentOf_28 : decode fX7_rentOf.2.1 28 = .ok (.iload_n 2, 1) := by decide +kernel
theorem dX7_rentOf_29 : decode fX7_rentOf.2.1 29 = .ok (.invokestatic 113, 3) := by decide +kernel
theorem dX7_rentOf_32 : decode fX7_rentOf.2.1 32 = .ok (.iastore, 1) := by decide +kernel
theorem dX7_rentOf_33 : decode fX7_rentOf.2.1 33 = .ok (.aload_n 0, 1) := by decide +kernel
theorem dX7_rentOf_34 : decode fX7_rentOf.2.1 34 = .ok (.getfield 48, 3) := by decide +kernel
theorem dX7_rentOf_37 : decode fX7_rentOf.2.1 37 = .ok (.iconst 2, 1) := by decide +kernel
theorem dX7_rentOf_38 : decode fX7_rentOf.2.1 38 = .ok (.aload_n 0, 1) := by decide +kernel
theorem dX7_rentOf_39 : decode fX7_rentOf.2.1 39 = .ok (.getfield 9, 3) := by decide +kernel
theorem dX7_rentOf_42 : decode fX7_rentOf.2.1 42 = .ok (.iconst 2, 1) := by decide +kernel
theorem dX7_rentOf_43 : decode fX7_rentOf.2.1 43 = .ok (.iaload, 1) := by decide +kernel
theorem dX7_rentOf_44 : decode fX7_rentOf.2.1 44 = .ok (.iastore, 1) := by decide +kernel
theorem dX7_rentOf_45 : decode fX7_rentOf.2.1 45 = .ok (.aload_n 0, 1) := by decide +kernel
theorem dX7_rentOf_46 : decode fX7_rentOf.2.1 46 = .ok (.getfield 48, 3) := by decide +kernel
theorem dX7_rentOf_49 : decode fX7_rentOf.2.1 49 = .ok (.iconst 3, 1) := by decide +kernel
theorem dX7_rentOf_50 : decode fX7_rentOf.2.1 50 = .ok (.aload_n 0, 1) := by decide +kernel
theorem dX7_rentOf_51 : decode fX7_rentOf.2.1 51 = .ok (.iload_n 1, 1) := by decide +kernel
theorem dX7_rentOf_52 : decode fX7_rentOf.2.1 52 = .ok (.invokevirtual 93, 3) := by decide +kernel
theorem dX7_rentOf_55 : decode fX7_rentOf.2.1 55 = .ok (.iastore, 1) := by decide +kernel
theorem dX7_rentOf_56 : decode fX7_rentOf.2.1 56 = .ok (.iload_n 3, 1) := by decide +kernel
theorem dX7_rentOf_57 : decode fX7_rentOf.2.1 57 = .ok (.ifCond .ge 11, 3) := by decide +kernel
theorem dX7_rentOf_60 : decode fX7_rentOf.2.1 60 = .ok (.aload_n 0, 1) := by decide +kernel
theorem dX7_rentOf_61 : decode fX7_rentOf.2.1 61 = .ok (.iload_n 2, 1) := by decide +kernel
theorem dX7_rentOf_62 : decode fX7_rentOf.2.1 62 = .ok (.invokevirtual 110, 3) := by decide +kernel
theorem dX7_rentOf_65 : decode fX7_rentOf.2.1 65 = .ok (.goto 15, 3) := by decide +kernel
theorem dX7_rentOf_68 : decode fX7_rentOf.2.1 68 = .ok (.aload_n 0, 1) := by decide +kernel
theorem dX7_rentOf_69 : decode fX7_rentOf.2.1 69 = .ok (.iload_n 3, 1) := by decide +kernel
theorem dX7_rentOf_70 : decode fX7_rentOf.2.1 70 = .ok (.invokevirtual 116, 3) := by decide +kernel
theorem dX7_rentOf_73 : decode fX7_rentOf.2.1 73 = .ok (.iconst 0, 1) := by decide +kernel
theorem dX7_rentOf_74 : decode fX7_rentOf.2.1 74 = .ok (.sipush 9999, 3) := by decide +kernel
theorem dX7_rentOf_77 : decode fX7_rentOf.2.1 77 = .ok (.invokestatic 82, 3) := by decide +kernel
theorem dX7_rentOf_80 : decode fX7_rentOf.2.1 80 = .ok (.istore 4, 2) := by decide +kernel
theorem dX7_rentOf_82 : decode fX7_rentOf.2.1 82 = .ok (.iload 4, 2) := by decide +kernel
theorem dX7_rentOf_84 : decode fX7_rentOf.2.1 84 = .ok (.ifCond .le 10, 3) := by decide +kernel
theorem dX7_rentOf_87 : decode fX7_rentOf.2.1 87 = .ok (.iload 4, 2) := by decide +kernel
theorem dX7_rentOf_89 : decode fX7_rentOf.2.1 89 = .ok (.iconst 1, 1) := by decide +kernel
theorem dX7_rentOf_90 : decode fX7_rentOf.2.1 90 = .ok (.isub, 1) := by decide +kernel
theorem dX7_rentOf_91 : decode fX7_rentOf.2.1 91 = .ok (.goto 4, 3) := by decide +kernel
theorem dX7_rentOf_94 : decode fX7_rentOf.2.1 94 = .ok (.iconst 0, 1) := by decide +kernel
theorem dX7_rentOf_95 : decode fX7_rentOf.2.1 95 = .ok (.istore 5, 2) := by decide +kernel
theorem dX7_rentOf_97 : decode fX7_rentOf.2.1 97 = .ok (.aload_n 0, 1) := by decide +kernel
theorem dX7_rentOf_98 : decode fX7_rentOf.2.1 98 = .ok (.iload_n 1, 1) := by decide +kernel
theorem dX7_rentOf_99 : decode fX7_rentOf.2.1 99 = .ok (.iconst 0, 1) := by decide +kernel
theorem dX7_rentOf_100 : decode fX7_rentOf.2.1 100 = .ok (.invokevirtual 86, 3) := by decide +kernel
theorem dX7_rentOf_103 : decode fX7_rentOf.2.1 103 = .ok (.tableswitch 52 1 4 #[29, 32, 37, 42], 29) := by decide +kernel
theorem dX7_rentOf_132 : decode fX7_rentOf.2.1 132 = .ok (.iload 5, 2) := by decide +kernel
theorem dX7_rentOf_134 : decode fX7_rentOf.2.1 134 = .ok (.ireturn, 1) := by decide +kernel
theorem dX7_rentOf_135 : decode fX7_rentOf.2.1 135 = .ok (.iload 4, 2) := by decide +kernel
theorem dX7_rentOf_137 : decode fX7_rentOf.2.1 137 = .ok (.iconst 3, 1) := by decide +kernel
theorem dX7_rentOf_138 : decode fX7_rentOf.2.1 138 = .ok (.iadd, 1) := by decide +kernel
theorem dX7_rentOf_139 : decode fX7_rentOf.2.1 139 = .ok (.ireturn, 1) := by decide +kernel
theorem dX7_rentOf_140 : decode fX7_rentOf.2.1 140 = .ok (.iload 5, 2) := by decide +kernel
theorem dX7_rentOf_142 : decode fX7_rentOf.2.1 142 = .ok (.iconst 2, 1) := by decide +kernel
theorem dX7_rentOf_143 : decode fX7_rentOf.2.1 143 = .ok (.idiv, 1) := by decide +kernel
theorem dX7_rentOf_144 : decode fX7_rentOf.2.1 144 = .ok (.ireturn, 1) := by decide +kernel
theorem dX7_rentOf_145 : decode fX7_rentOf.2.1 145 = .ok (.iload 4, 2) := by decide +kernel
theorem dX7_rentOf_147 : decode fX7_rentOf.2.1 147 = .ok (.iconst 3, 1) := by decide +kernel
theorem dX7_rentOf_148 : decode fX7_rentOf.2.1 148 = .ok (.iadd, 1) := by decide +kernel
theorem dX7_rentOf_149 : decode fX7_rentOf.2.1 149 = .ok (.iload_n 2, 1) := by decide +kernel
theorem dX7_rentOf_150 : decode fX7_rentOf.2.1 150 = .ok (.invokestatic 113, 3) := by decide +kernel
theorem dX7_rentOf_153 : decode fX7_rentOf.2.1 153 = .ok (.iadd, 1) := by decide +kernel
theorem dX7_rentOf_154 : decode fX7_rentOf.2.1 154 = .ok (.ireturn, 1) := by decide +kernel
theorem dX7_rentOf_155 : decode fX7_rentOf.2.1 155 = .ok (.iload 4, 2) := by decide +kernel
theorem dX7_rentOf_157 : decode fX7_rentOf.2.1 157 = .ok (.ireturn, 1) := by decide +kernel
set_option maxRecDepth 100000 in
set_option maxHeartbeats 4000000 in
theorem ok_X7_rentOf {X : Xb} {S : Sg} {mi : Mem} {o a n : Nat} (hM : MdA S o) (ha : a < 8) (hn : mi (o + 1) 5 = nI n) (hn14 : n ≤ 14) (ht : MtOk (mi (o + 1)) n) : Ok 4 0 0 fX7_rentOf X [rf X o, .int (nI a)] S mi (fun r S' m => r = some (.int (mRent (lwM (mi (o + 1)) 0 n) (mi (o + 1)) a)) ∧ S' = S ∧ ScrM o mi m) := by
  refine Ok.go [some (rf X o), some (.int (nI a)), none, none, none, none] (by decide) (by simp [Value.category]) (Nat.le_of_ble_eq_true rfl) rfl ?_
  obtain ⟨k_o, ⟨r_o_now, k_o_now⟩, ⟨r_o_image, k_o_image⟩, ⟨r_o_aside, k_o_aside⟩, ⟨r_o_seen, k_o_seen⟩, ⟨r_o_unlike, k_o_unlike⟩, ⟨r_o_tape, k_o_tape⟩, ⟨r_o_keys, k_o_keys⟩, ⟨r_o_keyAt, k_o_keyAt⟩, ⟨r_o_code, k_o_code⟩, ⟨r_o_waits, k_o_waits⟩, ⟨r_o_tested, k_o_tested⟩, ⟨r_o_stack, k_o_stack⟩, ⟨r_o_facts, k_o_facts⟩, ⟨r_o_sorts, k_o_sorts⟩, ⟨r_o_sizes, k_o_sizes⟩, ⟨r_o_cells, k_o_cells⟩, ⟨r_o_holds, k_o_holds⟩, ⟨r_o_holdsA, k_o_holdsA⟩, ⟨r_o_holdsB, k_o_holdsB⟩, ⟨r_o_heldCells, k_o_heldCells⟩, ⟨r_o_moved, k_o_moved⟩, ⟨r_o_tells, k_o_tells⟩⟩ := id hM
  have n1 : o + 1 ≠ o + 13 := by omega
  have n2 : o + 1 ≠ o + 12 := by omega
  have s80 : ∀ (m : Mem) (p : Int32) (a3 : Option Value), ScrM o mi m → mPlainF (lwM (mi (o + 1)) 0 n) (mPrices (fun k => mi (o + 1) (18 + k)) (rSees (mi (o + 1)) a)) (popI (rSees (mi (o + 1)) a)) (mi (o + 1) 2) (mWide (mi (o + 1) 2) (mi (o + 1) (26 + 5 * a)) (mi (o + 1) (26 + 5 * a + 2))) = p → MW X fX7_rentOf (rmOf 4 0 0) 0 0 80 [some (rf X o), some (.int (nI a)), some (.int (rSees (mi (o + 1)) a)), none, none, none] [.int p] S m (mQ X 0 0 (fun r S' m => r = some (.int (mRent (lwM (mi (o + 1)) 0 n) (mi (o + 1)) a)) ∧ S' = S ∧ ScrM o mi m)) := by
    intro m p a3 hs hp
    have em : m (o + 1) = mi (o + 1) := hs (o + 1) (by omega) (by omega)
    refine mw_istore dX7_rentOf_80 (by decide) ?_
    refine mw_iload dX7_rentOf_82 rfl ?_
    refine mw_if_le (tgt := 94) dX7_rentOf_84 (by decide) (fun h84 => ?_) (fun h84 => ?_)
    · skip
      refine mw_iconst (v := 0) dX7_rentOf_94 (by decide) ?_
      refine mw_istore dX7_rentOf_95 (by decide) ?_
      refine mw_aload_n dX7_rentOf_97 rfl ?_
      refine mw_iload_n dX7_rentOf_98 rfl ?_
      refine mw_iconst (v := 0) dX7_rentOf_99 (by decide) ?_
      refine mw_cVI (g := fX7_of) dX7_rentOf_100 ml_X7_86 mfX7_of (ok_X7_of hM (a := a) (w := 0) ha (by decide)) (by assumption) rfl rfl (Nat.le_of_ble_eq_true rfl) ⟨by decide, by decide⟩ ⟨by decide, by decide⟩ ?_
      rw [em]
      refine mw_ts1 dX7_rentOf_103 (by decide) 1 132 (by decide) (fun h103_1 => ?_) (fun h103_1 => ?_)
      · skip
        refine mw_iload dX7_rentOf_132 rfl ?_
        exact mw_iret dX7_rentOf_134 rfl (by decide) (by decide) (⟨by rw [mRent, hp]; simp only [mRentP]; grind, rfl, hs⟩)
      refine mw_ts1 dX7_rentOf_103 (by decide) 2 135 (by decide) (fun h103_2 => ?_) (fun h103_2 => ?_)
      · skip
        refine mw_iload dX7_rentOf_135 rfl ?_
        refine mw_iconst (v := 3) dX7_rentOf_137 (by decide) ?_
        refine mw_iadd dX7_rentOf_138 ?_
        exact mw_iret dX7_rentOf_139 rfl (by decide) (by decide) (⟨by rw [mRent, hp]; simp only [mRentP]; grind, rfl, hs⟩)
      refine mw_ts1 dX7_rentOf_103 (by decide) 3 140 (by decide) (fun h103_3 => ?_) (fun h103_3 => ?_)
      · skip
        refine mw_iload dX7_rentOf_140 rfl ?_
        refine mw_iconst (v := 2) dX7_rentOf_142 (by decide) ?_
        refine mw_idiv dX7_rentOf_143 (by decide) ?_
        exact mw_iret dX7_rentOf_144 rfl (by decide) (by decide) (⟨by rw [mRent, hp]; simp only [Nat.add_zero] at h103_1 h103_2 h103_3; rw [mRentP, if_neg h103_1, if_neg h103_2, if_pos h103_3]; first | rw [if_neg (Int32.not_lt.mpr h84)] | rw [if_pos (Int32.not_le.mp h84)], rfl, hs⟩)
      refine mw_ts1 dX7_rentOf_103 (by decide) 4 145 (by decide) (fun h103_4 => ?_) (fun h103_4 => ?_)
      · skip
        refine mw_iload dX7_rentOf_145 rfl ?_
        refine mw_iconst (v := 3) dX7_rentOf_147 (by decide) ?_
        refine mw_iadd dX7_rentOf_148 ?_
        refine mw_iload_n dX7_rentOf_149 rfl ?_
        refine mw_cSI (g := fX7_bits) dX7_rentOf_150 ml_X7_113 mfX7_bits (ok_X7_bits) rfl rfl (Nat.le_of_ble_eq_true rfl) ⟨by decide, by decide⟩ ⟨by decide, by decide⟩ ?_
        refine mw_iadd dX7_rentOf_153 ?_
        exact mw_iret dX7_rentOf_154 rfl (by decide) (by decide) (⟨by rw [mRent, hp]; simp only [mRentP]; grind, rfl, hs⟩)
      refine mw_ts0 dX7_rentOf_103 (by decide) 155 (by decide) (by have e0 := ne_toI (n := 1) (by decide) h103_1; have e1 := ne_toI (n := 2) (by decide) h103_2; have e2 := ne_toI (n := 3) (by decide) h103_3; have e3 := ne_toI (n := 4) (by decide) h103_4; omega) ?_
      refine mw_iload dX7_rentOf_155 rfl ?_
      exact mw_iret dX7_rentOf_157 rfl (by decide) (by decide) (⟨by rw [mRent, hp]; simp only [mRentP]; grind, rfl, hs⟩)
    · skip
      refine mw_iload dX7_rentOf_87 rfl ?_
      refine mw_iconst (v := 1) dX7_rentOf_89 (by decide) ?_
      refine mw_isub dX7_rentOf_90 ?_
      refine mw_goto (tgt := 95) dX7_rentOf_91 (by decide) ?_
      refine mw_istore dX7_rentOf_95 (by decide) ?_
      refine mw_aload_n dX7_rentOf_97 rfl ?_
      refine mw_iload_n dX7_rentOf_98 rfl ?_
      refine mw_iconst (v := 0) dX7_rentOf_99 (by decide) ?_
      refine mw_cVI (g := fX7_of) dX7_rentOf_100 ml_X7_86 mfX7_of (ok_X7_of hM (a := a) (w := 0) ha (by decide)) (by assumption) rfl rfl (Nat.le_of_ble_eq_true rfl) ⟨by decide, by decide⟩ ⟨by decide, by decide⟩ ?_
      rw [em]
      refine mw_ts1 dX7_rentOf_103 (by decide) 1 132 (by decide) (fun h103_1 => ?_) (fun h103_1 => ?_)
      · skip
        refine mw_iload dX7_rentOf_132 rfl ?_
        exact mw_iret dX7_rentOf_134 rfl (by decide) (by decide) (⟨by rw [mRent, hp]; simp only [mRentP]; grind, rfl, hs⟩)
      refine mw_ts1 dX7_rentOf_103 (by decide) 2 135 (by decide) (fun h103_2 => ?_) (fun h103_2 => ?_)
      · skip
        refine mw_iload dX7_rentOf_135 rfl ?_
        refine mw_iconst (v := 3) dX7_rentOf_137 (by decide) ?_
        refine mw_iadd dX7_rentOf_138 ?_
        exact mw_iret dX7_rentOf_139 rfl (by decide) (by decide) (⟨by rw [mRent, hp]; simp only [mRentP]; grind, rfl, hs⟩)
      refine mw_ts1 dX7_rentOf_103 (by decide) 3 140 (by decide) (fun h103_3 => ?_) (fun h103_3 => ?_)
      · skip
        refine mw_iload dX7_rentOf_140 rfl ?_
        refine mw_iconst (v := 2) dX7_rentOf_142 (by decide) ?_
        refine mw_idiv dX7_rentOf_143 (by decide) ?_
        exact mw_iret dX7_rentOf_144 rfl (by decide) (by decide) (⟨by rw [mRent, hp]; simp only [Nat.add_zero] at h103_1 h103_2 h103_3; rw [mRentP, if_neg h103_1, if_neg h103_2, if_pos h103_3]; first | rw [if_neg (Int32.not_lt.mpr h84)] | rw [if_pos (Int32.not_le.mp h84)], rfl, hs⟩)
      refine mw_ts1 dX7_rentOf_103 (by decide) 4 145 (by decide) (fun h103_4 => ?_) (fun h103_4 => ?_)
      · skip
        refine mw_iload dX7_rentOf_145 rfl ?_
        refine mw_iconst (v := 3) dX7_rentOf_147 (by decide) ?_
        refine mw_iadd dX7_rentOf_148 ?_
        refine mw_iload_n dX7_rentOf_149 rfl ?_
        refine mw_cSI (g := fX7_bits) dX7_rentOf_150 ml_X7_113 mfX7_bits (ok_X7_bits) rfl rfl (Nat.le_of_ble_eq_true rfl) ⟨by decide, by decide⟩ ⟨by decide, by decide⟩ ?_
        refine mw_iadd dX7_rentOf_153 ?_
        exact mw_iret dX7_rentOf_154 rfl (by decide) (by decide) (⟨by rw [mRent, hp]; simp only [mRentP]; grind, rfl, hs⟩)
      refine mw_ts0 dX7_rentOf_103 (by decide) 155 (by decide) (by have e0 := ne_toI (n := 1) (by decide) h103_1; have e1 := ne_toI (n := 2) (by decide) h103_2; have e2 := ne_toI (n := 3) (by decide) h103_3; have e3 := ne_toI (n := 4) (by decide) h103_4; omega) ?_
      refine mw_iload dX7_rentOf_155 rfl ?_
      exact mw_iret dX7_rentOf_157 rfl (by decide) (by decide) (⟨by rw [mRent, hp]; simp only [mRentP]; grind, rfl, hs⟩)
  have s68 : ∀ (m : Mem) (t : Nat), ScrM o mi m → m (o + 13) 0 = mPrices (fun k => mi (o + 1) (18 + k)) (rSees (mi (o + 1)) a) → m (o + 13) 1 = popI (rSees (mi (o + 1)) a) → m (o + 13) 2 = mi (o + 1) 2 → m (o + 13) 3 = mWide (mi (o + 1) 2) (mi (o + 1) (26 + 5 * a)) (mi (o + 1) (26 + 5 * a + 2)) → lastK (mi (o + 1)) 0 n = some t → MW X fX7_rentOf (rmOf 4 0 0) 0 0 68 [some (rf X o), some (.int (nI a)), some (.int (rSees (mi (o + 1)) a)), some (.int (nI t)), none, none] [] S m (mQ X 0 0 (fun r S' m => r = some (.int (mRent (lwM (mi (o + 1)) 0 n) (mi (o + 1)) a)) ∧ S' = S ∧ ScrM o mi m)) := by
    intro m t hs f0 f1 f2 f3 hk
    have htn := lastK_lt n hk
    have em : m (o + 1) = mi (o + 1) := hs (o + 1) (by omega) (by omega)
    refine mw_aload_n dX7_rentOf_68 rfl ?_
    refine mw_iload_n dX7_rentOf_69 rfl ?_
    refine mw_cVI (g := fX7_worksOut) dX7_rentOf_70 ml_X7_116 mfX7_worksOut (ok_X7_worksOut (t := t) (n := mLen (mi (o + 1)) t) hM (by omega) (by rw [em]; exact (ht t htn).1) (by rw [em]; exact (ht t htn).2)) (by assumption) rfl rfl (Nat.le_of_ble_eq_true rfl) ⟨by decide, by decide⟩ ⟨by decide, by decide⟩ ?_
    rw [em, wRun_law (ht t htn).2 f0 f1 f2 f3]
    refine mw_iconst (v := 0) dX7_rentOf_73 (by decide) ?_
    refine mw_sipush (v := 9999) dX7_rentOf_74 (by decide) ?_
    refine mw_cSI (g := fX7_within) dX7_rentOf_77 ml_X7_82 mfX7_within (ok_X7_within) rfl rfl (Nat.le_of_ble_eq_true rfl) ⟨by decide, by decide⟩ ⟨by decide, by decide⟩ ?_
    exact MW.sub (by simp [lsub]) (s80 _ _ none hs.row (by rw [lwM, hk]; rfl))
  refine mw_aload_n dX7_rentOf_0 rfl ?_
  refine mw_iload_n dX7_rentOf_1 rfl ?_
  refine mw_cVI (g := fX7_sees) dX7_rentOf_2 ml_X7_104 mfX7_sees (ok_X7_sees hM ha) (by assumption) rfl rfl (Nat.le_of_ble_eq_true rfl) ⟨by decide, by decide⟩ ⟨by decide, by decide⟩ ?_
  refine mw_istN 2 dX7_rentOf_5 rfl (by decide) ?_
  refine mw_aload_n dX7_rentOf_6 rfl ?_
  refine mw_iconst (v := 0) dX7_rentOf_7 (by decide) ?_
  refine mw_cVI (g := fX7_counts) dX7_rentOf_8 ml_X7_107 mfX7_counts (ok_X7_counts hM hn hn14) (by assumption) rfl rfl (Nat.le_of_ble_eq_true rfl) ⟨by decide, by decide⟩ ⟨by decide, by decide⟩ ?_
  refine mw_istN 3 dX7_rentOf_11 rfl (by decide) ?_
  refine mw_aload_n dX7_rentOf_12 rfl ?_
  refine mw_getr dX7_rentOf_13 fl_X7_48 rfl (by assumption) (by assumption) ?_
  refine mw_iconst (v := 0) dX7_rentOf_16 (by decide) ?_
  refine mw_aload_n dX7_rentOf_17 rfl ?_
  refine mw_iload_n dX7_rentOf_18 rfl ?_
  refine mw_cVI (g := fX7_pricesOf) dX7_rentOf_19 ml_X7_110 mfX7_pricesOf (ok_X7_pricesOf hM) (by assumption) rfl rfl (Nat.le_of_ble_eq_true rfl) ⟨by decide, by decide⟩ ⟨by decide, by decide⟩ ?_
  refine mw_iastK (k := 0) dX7_rentOf_22 (by assumption) (rfl) (by decide) (by decide) ?_
  generalize hm1 : m_up mi (o + 13) 0 _ = m1
  have s1 : ScrM o mi m1 := by rw [← hm1]; exact (ScrM.rf o mi).up
  have em1 : m1 (o + 1) = mi (o + 1) := s1 _ n2 n1
  refine mw_aload_n dX7_rentOf_23 rfl ?_
  refine mw_getr dX7_rentOf_24 fl_X7_48 rfl (by assumption) (by assumption) ?_
  refine mw_iconst (v := 1) dX7_rentOf_27 (by decide) ?_
  refine mw_iload_n dX7_rentOf_28 rfl ?_
  refine mw_cSI (g := fX7_bits) dX7_rentOf_29 ml_X7_113 mfX7_bits (ok_X7_bits) rfl rfl (Nat.le_of_ble_eq_true rfl) ⟨by decide, by decide⟩ ⟨by decide, by decide⟩ ?_
  refine mw_iastK (k := 1) dX7_rentOf_32 (by assumption) (rfl) (by decide) (by decide) ?_
  generalize hm2 : m_up m1 (o + 13) 1 _ = m2
  have s2 : ScrM o mi m2 := by rw [← hm2]; exact s1.up
  have em2 : m2 (o + 1) = mi (o + 1) := s2 _ n2 n1
  refine mw_aload_n dX7_rentOf_33 rfl ?_
  refine mw_getr dX7_rentOf_34 fl_X7_48 rfl (by assumption) (by assumption) ?_
  refine mw_iconst (v := 2) dX7_rentOf_37 (by decide) ?_
  refine mw_aload_n dX7_rentOf_38 rfl ?_
  refine mw_getr dX7_rentOf_39 fl_X7_9 rfl (by assumption) (by assumption) ?_
  refine mw_iconst (v := 2) dX7_rentOf_42 (by decide) ?_
  refine mw_ialdK (k := 2) dX7_rentOf_43 (by assumption) (rfl) (by decide) (by decide) ?_
  rw [em2]
  refine mw_iastK (k := 2) dX7_rentOf_44 (by assumption) (rfl) (by decide) (by decide) ?_
  generalize hm3 : m_up m2 (o + 13) 2 _ = m3
  have s3 : ScrM o mi m3 := by rw [← hm3]; exact s2.up
  have em3 : m3 (o + 1) = mi (o + 1) := s3 _ n2 n1
  refine mw_aload_n dX7_rentOf_45 rfl ?_
  refine mw_getr dX7_rentOf_46 fl_X7_48 rfl (by assumption) (by assumption) ?_
  refine mw_iconst (v := 3) dX7_rentOf_49 (by decide) ?_
  refine mw_aload_n dX7_rentOf_50 rfl ?_
  refine mw_iload_n dX7_rentOf_51 rfl ?_
  refine mw_cVI (g := fX7_wideOf) dX7_rentOf_52 ml_X7_93 mfX7_wideOf (ok_X7_wideOf hM ha) (by assumption) rfl rfl (Nat.le_of_ble_eq_true rfl) ⟨by decide, by decide⟩ ⟨by decide, by decide⟩ ?_
  rw [em3]
  refine mw_iastK (k := 3) dX7_rentOf_55 (by assumption) (rfl) (by decide) (by decide) ?_
  generalize hm4 : m_up m3 (o + 13) 3 _ = m4
  have s4 : ScrM o mi m4 := by rw [← hm4]; exact s3.up
  have em4 : m4 (o + 1) = mi (o + 1) := s4 _ n2 n1
  refine mw_iload_n dX7_rentOf_56 rfl ?_
  refine mw_if_ge (tgt := 68) dX7_rentOf_57 (by decide) (fun h57 => ?_) (fun h57 => ?_)
  · skip
    cases hk : lastK (mi (o + 1)) 0 n with
    | none => exfalso; rw [lastI, hk] at h57; exact absurd h57 (by decide)
    | some t =>
      refine MW.sub (by simp [lsub, lastI, hk]) (s68 m4 t s4 ?_ ?_ ?_ ?_ hk)
      · rw [← hm4, ← hm3, ← hm2, ← hm1]; simp [m_up]
      · rw [← hm4, ← hm3, ← hm2]; simp [m_up]
      · rw [← hm4, ← hm3]; simp [m_up]
      · rw [← hm4]; simp [m_up]
  · skip
    refine mw_aload_n dX7_rentOf_60 rfl ?_
    refine mw_iload_n dX7_rentOf_61 rfl ?_
    refine mw_cVI (g := fX7_pricesOf) dX7_rentOf_62 ml_X7_110 mfX7_pricesOf (ok_X7_pricesOf hM) (by assumption) rfl rfl (Nat.le_of_ble_eq_true rfl) ⟨by decide, by decide⟩ ⟨by decide, by decide⟩ ?_
    refine mw_goto (tgt := 80) dX7_rentOf_65 (by decide) ?_
    rw [em4]
    have hk : lastK (mi (o + 1)) 0 n = none := by
      cases hk : lastK (mi (o + 1)) 0 n with
      | none => rfl
      | some t =>
        exfalso; apply h57; rw [lastI, hk]; exact nI_pos' (by have := lastK_lt n hk; omega)
    exact MW.sub (by simp [lsub]) (s80 m4 _ none s4 (by rw [lwM, hk]; rfl))
end
section
/-! the model: an hour -/
def FrM (o : Nat) (mi m : Mem) : Prop := ∀ a, a ≠ o + 1 → a ≠ o + 12 → a ≠ o + 13 → m a = mi a
theorem FrM.rf (o : Nat) (mi : Mem) : FrM o mi mi := fun _ _ _ _ => rfl
theorem FrM.tr {o : Nat} {a b c : Mem} (h : FrM o a b) (k : FrM o b c) : FrM o a c := fun x h1 h2 h3 => (k x h1 h2 h3).trans (h x h1 h2 h3)
theorem FrM.scr {o : Nat} {a b : Mem} (h : ScrM o a b) : FrM o a b := fun x _ h2 h3 => h x h2 h3
theorem FrM.up {o k : Nat} {a b : Mem} {v : Int32} (h : FrM o a b) : FrM o a (m_up b (o + 1) k v) := fun x h1 h2 h3 => by rw [m_up_ne h1]; exact h x h1 h2 h3
def tail66 (A B : Nat → Int32) : Prop := ∀ j, 66 ≤ j → B j = A j
theorem lastK_congr {A B : Nat → Int32} {key : Int32} (h : tail66 A B) : ∀ n, lastK B key n = lastK A key n
  | 0 => rfl
  | n + 1 => by simp only [lastK]; rw [h _ (by omega), lastK_congr h n]
theorem mLen_congr {A B : Nat → Int32} (h : tail66 A B) (t : Nat) : mLen B t = mLen A t := by unfold mLen; rw [h _ (by omega)]
theorem code_congr {A B : Nat → Int32} (h : tail66 A B) (t : Nat) : (fun k => B (94 + 96 * t + k)) = fun k => A (94 + 96 * t + k) := by funext k; exact h _ (by omega)
theorem lwM_congr {A B : Nat → Int32} {key : Int32} {n : Nat} (h : tail66 A B) : lwM B key n = lwM A key n := by
  unfold lwM
  rw [lastK_congr h]
  congr 1
  funext t
  rw [code_congr h, mLen_congr h]
theorem MtOk.congr {A B : Nat → Int32} {n : Nat} (h : tail66 A B) (k : MtOk A n) : MtOk B n := by
  intro t ht
  obtain ⟨h1, h2⟩ := k t ht
  rw [mLen_congr h, code_congr h, h _ (by omega)]
  exact ⟨h1, h2⟩
theorem tail66.up {A B : Nat → Int32} {j : Nat} {v : Int32} (h : tail66 A B) (hj : j < 66) : tail66 A (upd B j v) := fun i hi => by simp only [upd, show i ≠ j by omega, if_false]; exact h i hi
theorem tail66.rf (A : Nat → Int32) : tail66 A A := fun _ _ => rfl
theorem upd_id (A : Nat → Int32) (j : Nat) : upd A j (A j) = A := by funext k; simp only [upd]; split <;> simp_all
theorem upd_upd (A : Nat → Int32) (j : Nat) (v w : Int32) : upd (upd A j v) j w = upd A j w := by funext k; simp only [upd]; split <;> rfl
theorem upd_at (A : Nat → Int32) (j : Nat) (v : Int32) : upd A j v j = v := by simp [upd]
theorem upd_ne {A : Nat → Int32} {j k : Nat} {v : Int32} (h : k ≠ j) : upd A j v k = A k := by simp [upd, h]
def mPay1 (lw : LawT) (A : Nat → Int32) (a : Nat) : Nat → Int32 :=
  upd (upd (upd A (26 + 5 * a + 3) (A (26 + 5 * a + 3) - minI (A (26 + 5 * a + 3)) (mRent lw A a))) 3 (A 3 + minI (A (26 + 5 * a + 3)) (mRent lw A a))) (26 + 5 * a + 4) (clampI (A (26 + 5 * a + 4) + mRent lw A a - minI (A (26 + 5 * a + 3)) (mRent lw A a)) 0 9999)
def mPaysTo (lw : LawT) (A : Nat → Int32) : Nat → Nat → Int32
  | 0 => A
  | k + 1 => mPay1 lw (mPaysTo lw A k) k
def mWageTo (A : Nat → Int32) : Nat → Nat → Int32
  | 0 => A
  | k + 1 => upd (mWageTo A k) (26 + 5 * k + 3) (clampI (mWageTo A k (26 + 5 * k + 3) + mWageTo A k 8) 0 9999)
theorem mPaysTo_lo {lw : LawT} {A : Nat → Int32} {j : Nat} (hj : j < 26) (h3 : j ≠ 3) : ∀ k, mPaysTo lw A k j = A j
  | 0 => rfl
  | k + 1 => by
    simp only [mPaysTo, mPay1, upd, h3, show j ≠ 26 + 5 * k + 3 by omega, show j ≠ 26 + 5 * k + 4 by omega, if_false]
    exact mPaysTo_lo hj h3 k
theorem mPaysTo_hi {lw : LawT} {A : Nat → Int32} : ∀ k, k ≤ 8 → tail66 A (mPaysTo lw A k)
  | 0, _ => tail66.rf A
  | k + 1, hk => (((mPaysTo_hi k (by omega)).up (by omega)).up (by omega)).up (by omega)
theorem mWageTo_lo {A : Nat → Int32} {j : Nat} (hj : j < 26) : ∀ k, mWageTo A k j = A j
  | 0 => rfl
  | k + 1 => by
    simp only [mWageTo, upd, show j ≠ 26 + 5 * k + 3 by omega, if_false]
    exact mWageTo_lo hj k
theorem mWageTo_hi {A : Nat → Int32} : ∀ k, k ≤ 8 → tail66 A (mWageTo A k)
  | 0, _ => tail66.rf A
  | k + 1, hk => (mWageTo_hi k (by omega)).up (by omega)
def mPay (lw : LawT) (n : Nat) (A : Nat → Int32) : Nat → Int32 := if dr1 A < A 6 then upd (hA0 A) 4 (A 4 + 1) else mPaysTo lw (hA0 A) n
def mWage (n : Nat) (B : Nat → Int32) : Nat → Int32 := if jr (B 2) 24 = 6 then mWageTo B n else B
def mHourF (lw : LawT) (n : Nat) (A : Nat → Int32) : Nat → Int32 := hEnd (mWage n (hSm A (mPay lw n A)))
theorem dX7_draw_0 : decode fX7_draw.2.1 0 = .ok (.aload_n 0, 1) := by decide +kernel
theorem dX7_draw_1 : decode fX7_draw.2.1 1 = .ok (.getfield 9, 3) := by decide +kernel
theorem dX7_draw_4 : decode fX7_draw.2.1 4 = .ok (.iconst 0, 1) := by decide +kernel
theorem dX7_draw_5 : decode fX7_draw.2.1 5 = .ok (.aload_n 0, 1) := by decide +kernel
theorem dX7_draw_6 : decode fX7_draw.2.1 6 = .ok (.getfield 9, 3) := by decide +kernel
theorem dX7_draw_9 : decode fX7_draw.2.1 9 = .ok (.iconst 0, 1) := by decide +kernel
theorem dX7_draw_10 : decode fX7_draw.2.1 10 = .ok (.iaload, 1) := by decide +kernel
theorem dX7_draw_11 : decode fX7_draw.2.1 11 = .ok (.ldc 151, 2) := by decide +kernel
theorem dX7_draw_13 : decode fX7_draw.2.1 13 = .ok (.imul, 1) := by decide +kernel
theorem dX7_draw_14 : decode fX7_draw.2.1 14 = .ok (.sipush 12345, 3) := by decide +kernel
theorem dX7_draw_17 : decode fX7_draw.2.1 17 = .ok (.iadd, 1) := by decide +kernel
theorem dX7_draw_18 : decode fX7_draw.2.1 18 = .ok (.iastore, 1) := by decide +kernel
theorem dX7_draw_19 : decode fX7_draw.2.1 19 = .ok (.aload_n 0, 1) := by decide +kernel
theorem dX7_draw_20 : decode fX7_draw.2.1 20 = .ok (.getfield 9, 3) := by decide +kernel
theorem dX7_draw_23 : decode fX7_draw.2.1 23 = .ok (.iconst 0, 1) := by decide +kernel
theorem dX7_draw_24 : decode fX7_draw.2.1 24 = .ok (.iaload, 1) := by decide +kernel
theorem dX7_draw_25 : decode fX7_draw.2.1 25 = .ok (.bipush 8, 2) := by decide +kernel
theorem dX7_draw_27 : decode fX7_draw.2.1 27 = .ok (.iushr, 1) := by decide +kernel
theorem dX7_draw_28 : decode fX7_draw.2.1 28 = .ok (.ireturn, 1) := by decide +kernel
set_option maxRecDepth 100000 in
set_option maxHeartbeats 4000000 in
theorem ok_X7_draw {X : Xb} {S : Sg} {mi : Mem} {o : Nat} (hM : MdA S o) : OkI 0 fX7_draw X [rf X o] S mi (jus (nz1 (mi (o + 1) 0)) 8) (m_up mi (o + 1) 0 (nz1 (mi (o + 1) 0))) := by
  refine Ok.go [some (rf X o)] (by decide) (by simp [Value.category]) (Nat.le_of_ble_eq_true rfl) rfl ?_
  obtain ⟨k_o, ⟨r_o_now, k_o_now⟩, ⟨r_o_image, k_o_image⟩, ⟨r_o_aside, k_o_aside⟩, ⟨r_o_seen, k_o_seen⟩, ⟨r_o_unlike, k_o_unlike⟩, ⟨r_o_tape, k_o_tape⟩, ⟨r_o_keys, k_o_keys⟩, ⟨r_o_keyAt, k_o_keyAt⟩, ⟨r_o_code, k_o_code⟩, ⟨r_o_waits, k_o_waits⟩, ⟨r_o_tested, k_o_tested⟩, ⟨r_o_stack, k_o_stack⟩, ⟨r_o_facts, k_o_facts⟩, ⟨r_o_sorts, k_o_sorts⟩, ⟨r_o_sizes, k_o_sizes⟩, ⟨r_o_cells, k_o_cells⟩, ⟨r_o_holds, k_o_holds⟩, ⟨r_o_holdsA, k_o_holdsA⟩, ⟨r_o_holdsB, k_o_holdsB⟩, ⟨r_o_heldCells, k_o_heldCells⟩, ⟨r_o_moved, k_o_moved⟩, ⟨r_o_tells, k_o_tells⟩⟩ := id hM
  refine mw_aload_n dX7_draw_0 rfl ?_
  refine mw_getr dX7_draw_1 fl_X7_9 rfl (by assumption) (by assumption) ?_
  refine mw_iconst (v := 0) dX7_draw_4 (by decide) ?_
  refine mw_aload_n dX7_draw_5 rfl ?_
  refine mw_getr dX7_draw_6 fl_X7_9 rfl (by assumption) (by assumption) ?_
  refine mw_iconst (v := 0) dX7_draw_9 (by decide) ?_
  refine mw_ialdK (k := 0) dX7_draw_10 (by assumption) (rfl) (by decide) (by decide) ?_
  refine mw_ldc dX7_draw_11 cn_X7_151 ?_
  refine mw_imul dX7_draw_13 ?_
  refine mw_sipush (v := 12345) dX7_draw_14 (by decide) ?_
  refine mw_iadd dX7_draw_17 ?_
  refine mw_iastK (k := 0) dX7_draw_18 (by assumption) (rfl) (by decide) (by decide) ?_
  refine mw_aload_n dX7_draw_19 rfl ?_
  refine mw_getr dX7_draw_20 fl_X7_9 rfl (by assumption) (by assumption) ?_
  refine mw_iconst (v := 0) dX7_draw_23 (by decide) ?_
  refine mw_ialdK (k := 0) dX7_draw_24 (by assumption) (rfl) (by decide) (by decide) ?_
  refine mw_bipush (v := 8) dX7_draw_25 (by decide) ?_
  refine mw_iushr dX7_draw_27 ?_
  exact mw_iret dX7_draw_28 rfl (by decide) (by decide) (⟨by simp [m_up, nz1], rfl, rfl⟩)
theorem dX7_pays_0 : decode fX7_pays.2.1 0 = .ok (.aload_n 0, 1) := by decide +kernel
theorem dX7_pays_1 : decode fX7_pays.2.1 1 = .ok (.iload_n 1, 1) := by decide +kernel
theorem dX7_pays_2 : decode fX7_pays.2.1 2 = .ok (.invokevirtual 135, 3) := by decide +kernel
theorem dX7_pays_5 : decode fX7_pays.2.1 5 = .ok (.istore_n 2, 1) := by decide +kernel
theorem dX7_pays_6 : decode fX7_pays.2.1 6 = .ok (.iload_n 2, 1) := by decide +kernel
theorem dX7_pays_7 : decode fX7_pays.2.1 7 = .ok (.aload_n 0, 1) := by decide +kernel
theorem dX7_pays_8 : decode fX7_pays.2.1 8 = .ok (.iload_n 1, 1) := by decide +kernel
theorem dX7_pays_9 : decode fX7_pays.2.1 9 = .ok (.iconst 3, 1) := by decide +kernel
theorem dX7_pays_10 : decode fX7_pays.2.1 10 = .ok (.invokevirtual 86, 3) := by decide +kernel
theorem dX7_pays_13 : decode fX7_pays.2.1 13 = .ok (.if_icmp .ge 7, 3) := by decide +kernel
theorem dX7_pays_16 : decode fX7_pays.2.1 16 = .ok (.iload_n 2, 1) := by decide +kernel
theorem dX7_pays_17 : decode fX7_pays.2.1 17 = .ok (.goto 9, 3) := by decide +kernel
theorem dX7_pays_20 : decode fX7_pays.2.1 20 = .ok (.aload_n 0, 1) := by decide +kernel
theorem dX7_pays_21 : decode fX7_pays.2.1 21 = .ok (.iload_n 1, 1) := by decide +kernel
theorem dX7_pays_22 : decode fX7_pays.2.1 22 = .ok (.iconst 3, 1) := by decide +kernel
theorem dX7_pays_23 : decode fX7_pays.2.1 23 = .ok (.invokevirtual 86, 3) := by decide +kernel
theorem dX7_pays_26 : decode fX7_pays.2.1 26 = .ok (.istore_n 3, 1) := by decide +kernel
theorem dX7_pays_27 : decode fX7_pays.2.1 27 = .ok (.aload_n 0, 1) := by decide +kernel
theorem dX7_pays_28 : decode fX7_pays.2.1 28 = .ok (.iload_n 1, 1) := by decide +kernel
theorem dX7_pays_29 : decode fX7_pays.2.1 29 = .ok (.iconst 3, 1) := by decide +kernel
theorem dX7_pays_30 : decode fX7_pays.2.1 30 = .ok (.aload_n 0, 1) := by decide +kernel
theorem dX7_pays_31 : decode fX7_pays.2.1 31 = .ok (.iload_n 1, 1) := by decide +kernel
theorem dX7_pays_32 : decode fX7_pays.2.1 32 = .ok (.iconst 3, 1) := by decide +kernel
theorem dX7_pays_33 : decode fX7_pays.2.1 33 = .ok (.invokevirtual 86, 3) := by decide +kernel
theorem dX7_pays_36 : decode fX7_pays.2.1 36 = .ok (.iload_n 3, 1) := by decide +kernel
theorem dX7_pays_37 : decode fX7_pays.2.1 37 = .ok (.isub, 1) := by decide +kernel
theorem dX7_pays_38 : decode fX7_pays.2.1 38 = .ok (.invokevirtual 119, 3) := by decide +kernel
theorem dX7_pays_41 : decode fX7_pays.2.1 41 = .ok (.aload_n 0, 1) := by decide +kernel
theorem dX7_pays_42 : decode fX7_pays.2.1 42 = .ok (.getfield 9, 3) := by decide +kernel
theorem dX7_pays_45 : decode fX7_pays.2.1 45 = .ok (.iconst 3, 1) := by decide +kernel
theorem dX7_pays_46 : decode fX7_pays.2.1 46 = .ok (.dup2, 1) := by decide +kernel
theorem dX7_pays_47 : decode fX7_pays.2.1 47 = .ok (.iaload, 1) := by decide +kernel
theorem dX7_pays_48 : decode fX7_pays.2.1 48 = .ok (.iload_n 3, 1) := by decide +kernel
theorem dX7_pays_49 : decode fX7_pays.2.1 49 = .ok (.iadd, 1) := by decide +kernel
theorem dX7_pays_50 : decode fX7_pays.2.1 50 = .ok (.iastore, 1) := by decide +kernel
theorem dX7_pays_51 : decode fX7_pays.2.1 51 = .ok (.aload_n 0, 1) := by decide +kernel
theorem dX7_pays_52 : decode fX7_pays.2.1 52 = .ok (.iload_n 1, 1) := by decide +kernel
theorem dX7_pays_53 : decode fX7_pays.2.1 53 = .ok (.iconst 4, 1) := by decide +kernel
theorem dX7_pays_54 : decode fX7_pays.2.1 54 = .ok (.aload_n 0, 1) := by decide +kernel
theorem dX7_pays_55 : decode fX7_pays.2.1 55 = .ok (.iload_n 1, 1) := by decide +kernel
theorem dX7_pays_56 : decode fX7_pays.2.1 56 = .ok (.iconst 4, 1) := by decide +kernel
theorem dX7_pays_57 : decode fX7_pays.2.1 57 = .ok (.invokevirtual 86, 3) := by decide +kernel
theorem dX7_pays_60 : decode fX7_pays.2.1 60 = .ok (.iload_n 2, 1) := by decide +kernel
theorem dX7_pays_61 : decode fX7_pays.2.1 61 = .ok (.iadd, 1) := by decide +kernel
theorem dX7_pays_62 : decode fX7_pays.2.1 62 = .ok (.iload_n 3, 1) := by decide +kernel
theorem dX7_pays_63 : decode fX7_pays.2.1 63 = .ok (.isub, 1) := by decide +kernel
theorem dX7_pays_64 : decode fX7_pays.2.1 64 = .ok (.iconst 0, 1) := by decide +kernel
theorem dX7_pays_65 : decode fX7_pays.2.1 65 = .ok (.sipush 9999, 3) := by decide +kernel
theorem dX7_pays_68 : decode fX7_pays.2.1 68 = .ok (.invokestatic 82, 3) := by decide +kernel
theorem dX7_pays_71 : decode fX7_pays.2.1 71 = .ok (.invokevirtual 119, 3) := by decide +kernel
theorem dX7_pays_74 : decode fX7_pays.2.1 74 = .ok (.return_, 1) := by decide +kernel
set_option maxRecDepth 100000 in
set_option maxHeartbeats 4000000 in
theorem ok_X7_pays {X : Xb} {S : Sg} {mi : Mem} {o a n : Nat} (hM : MdA S o) (ha : a < 8) (hn : mi (o + 1) 5 = nI n) (hn14 : n ≤ 14) (ht : MtOk (mi (o + 1)) n) : Ok 5 0 0 fX7_pays X [rf X o, .int (nI a)] S mi (fun r S' m => r = none ∧ S' = S ∧ m (o + 1) = mPay1 (lwM (mi (o + 1)) 0 n) (mi (o + 1)) a ∧ FrM o mi m) := by
  refine Ok.go [some (rf X o), some (.int (nI a)), none, none] (by decide) (by simp [Value.category]) (Nat.le_of_ble_eq_true rfl) rfl ?_
  obtain ⟨k_o, ⟨r_o_now, k_o_now⟩, ⟨r_o_image, k_o_image⟩, ⟨r_o_aside, k_o_aside⟩, ⟨r_o_seen, k_o_seen⟩, ⟨r_o_unlike, k_o_unlike⟩, ⟨r_o_tape, k_o_tape⟩, ⟨r_o_keys, k_o_keys⟩, ⟨r_o_keyAt, k_o_keyAt⟩, ⟨r_o_code, k_o_code⟩, ⟨r_o_waits, k_o_waits⟩, ⟨r_o_tested, k_o_tested⟩, ⟨r_o_stack, k_o_stack⟩, ⟨r_o_facts, k_o_facts⟩, ⟨r_o_sorts, k_o_sorts⟩, ⟨r_o_sizes, k_o_sizes⟩, ⟨r_o_cells, k_o_cells⟩, ⟨r_o_holds, k_o_holds⟩, ⟨r_o_holdsA, k_o_holdsA⟩, ⟨r_o_holdsB, k_o_holdsB⟩, ⟨r_o_heldCells, k_o_heldCells⟩, ⟨r_o_moved, k_o_moved⟩, ⟨r_o_tells, k_o_tells⟩⟩ := id hM
  have s26 : ∀ (m : Mem) (R p : Int32), ScrM o mi m → mRent (lwM (mi (o + 1)) 0 n) (mi (o + 1)) a = R → minI (mi (o + 1) (26 + 5 * a + 3)) R = p → MW X fX7_pays (rmOf 5 0 0) 0 0 26 [some (rf X o), some (.int (nI a)), some (.int R), none] [.int p] S m (mQ X 0 0 (fun r S' m => r = none ∧ S' = S ∧ m (o + 1) = mPay1 (lwM (mi (o + 1)) 0 n) (mi (o + 1)) a ∧ FrM o mi m)) := by
    intro m R p hs hR hp
    have em : m (o + 1) = mi (o + 1) := hs _ (by omega) (by omega)
    refine mw_istN 3 dX7_pays_26 rfl (by decide) ?_
    refine mw_aload_n dX7_pays_27 rfl ?_
    refine mw_iload_n dX7_pays_28 rfl ?_
    refine mw_iconst (v := 3) dX7_pays_29 (by decide) ?_
    refine mw_aload_n dX7_pays_30 rfl ?_
    refine mw_iload_n dX7_pays_31 rfl ?_
    refine mw_iconst (v := 3) dX7_pays_32 (by decide) ?_
    refine mw_cVI (g := fX7_of) dX7_pays_33 ml_X7_86 mfX7_of (ok_X7_of hM (a := a) (w := 3) ha (by decide)) (by assumption) rfl rfl (Nat.le_of_ble_eq_true rfl) ⟨by decide, by decide⟩ ⟨by decide, by decide⟩ ?_
    refine mw_iload_n dX7_pays_36 rfl ?_
    refine mw_isub dX7_pays_37 ?_
    refine mw_cVV (g := fX7_put) dX7_pays_38 ml_X7_119 mfX7_put (ok_X7_put hM (a := a) (w := 3) ha (by decide)) (by assumption) rfl rfl (Nat.le_of_ble_eq_true rfl) ⟨by decide, by decide⟩ ⟨by decide, by decide⟩ ?_
    refine mw_aload_n dX7_pays_41 rfl ?_
    refine mw_getr dX7_pays_42 fl_X7_9 rfl (by assumption) (by assumption) ?_
    refine mw_iconst (v := 3) dX7_pays_45 (by decide) ?_
    refine mw_dup2 dX7_pays_46 rfl rfl ?_
    refine mw_ialdK (k := 3) dX7_pays_47 (by assumption) (rfl) (by decide) (by decide) ?_
    refine mw_iload_n dX7_pays_48 rfl ?_
    refine mw_iadd dX7_pays_49 ?_
    refine mw_iastK (k := 3) dX7_pays_50 (by assumption) (rfl) (by decide) (by decide) ?_
    refine mw_aload_n dX7_pays_51 rfl ?_
    refine mw_iload_n dX7_pays_52 rfl ?_
    refine mw_iconst (v := 4) dX7_pays_53 (by decide) ?_
    refine mw_aload_n dX7_pays_54 rfl ?_
    refine mw_iload_n dX7_pays_55 rfl ?_
    refine mw_iconst (v := 4) dX7_pays_56 (by decide) ?_
    refine mw_cVI (g := fX7_of) dX7_pays_57 ml_X7_86 mfX7_of (ok_X7_of hM (a := a) (w := 4) ha (by decide)) (by assumption) rfl rfl (Nat.le_of_ble_eq_true rfl) ⟨by decide, by decide⟩ ⟨by decide, by decide⟩ ?_
    refine mw_iload_n dX7_pays_60 rfl ?_
    refine mw_iadd dX7_pays_61 ?_
    refine mw_iload_n dX7_pays_62 rfl ?_
    refine mw_isub dX7_pays_63 ?_
    refine mw_iconst (v := 0) dX7_pays_64 (by decide) ?_
    refine mw_sipush (v := 9999) dX7_pays_65 (by decide) ?_
    refine mw_cSI (g := fX7_within) dX7_pays_68 ml_X7_82 mfX7_within (ok_X7_within) rfl rfl (Nat.le_of_ble_eq_true rfl) ⟨by decide, by decide⟩ ⟨by decide, by decide⟩ ?_
    refine mw_cVV (g := fX7_put) dX7_pays_71 ml_X7_119 mfX7_put (ok_X7_put hM (a := a) (w := 4) ha (by decide)) (by assumption) rfl rfl (Nat.le_of_ble_eq_true rfl) ⟨by decide, by decide⟩ ⟨by decide, by decide⟩ ?_
    exact mw_vret dX7_pays_74 rfl (by decide) (by decide) (⟨rfl, rfl, by simp only [m_up_row, em, mPay1, hR, hp]; rw [upd_ne (show 3 ≠ 26 + 5 * a + 3 by omega), upd_ne (show 26 + 5 * a + 4 ≠ 3 by omega), upd_ne (show 26 + 5 * a + 4 ≠ 26 + 5 * a + 3 by omega)], (((FrM.scr hs).up).up).up⟩)
  refine mw_aload_n dX7_pays_0 rfl ?_
  refine mw_iload_n dX7_pays_1 rfl ?_
  refine mw_callV (g := fX7_rentOf) dX7_pays_2 ml_X7_135 mfX7_rentOf (ok_X7_rentOf hM ha hn hn14 ht) (by assumption) rfl rfl (Nat.le_of_ble_eq_true rfl) ⟨by decide, by decide⟩ ⟨by decide, by decide⟩ (fun r S2 mi2 hp => ?_)
  obtain ⟨rfl, e1, hs⟩ := hp
  rw [e1]
  have em : mi2 (o + 1) = mi (o + 1) := hs _ (by omega) (by omega)
  generalize hR : mRent (lwM (mi (o + 1)) 0 n) (mi (o + 1)) a = R
  refine mw_istN 2 dX7_pays_5 rfl (by decide) ?_
  refine mw_iload_n dX7_pays_6 rfl ?_
  refine mw_aload_n dX7_pays_7 rfl ?_
  refine mw_iload_n dX7_pays_8 rfl ?_
  refine mw_iconst (v := 3) dX7_pays_9 (by decide) ?_
  refine mw_cVI (g := fX7_of) dX7_pays_10 ml_X7_86 mfX7_of (ok_X7_of hM (a := a) (w := 3) ha (by decide)) (by assumption) rfl rfl (Nat.le_of_ble_eq_true rfl) ⟨by decide, by decide⟩ ⟨by decide, by decide⟩ ?_
  rw [em]
  refine mw_icmp_ge (tgt := 20) dX7_pays_13 (by decide) (fun h13 => ?_) (fun h13 => ?_)
  · skip
    refine mw_aload_n dX7_pays_20 rfl ?_
    refine mw_iload_n dX7_pays_21 rfl ?_
    refine mw_iconst (v := 3) dX7_pays_22 (by decide) ?_
    refine mw_cVI (g := fX7_of) dX7_pays_23 ml_X7_86 mfX7_of (ok_X7_of hM (a := a) (w := 3) ha (by decide)) (by assumption) rfl rfl (Nat.le_of_ble_eq_true rfl) ⟨by decide, by decide⟩ ⟨by decide, by decide⟩ ?_
    first
      | exact MW.sub (by simp [lsub]) (s26 mi2 R _ hs hR (by rw [minI, if_pos (Int32.not_le.mp h13)]))
      | (rw [em]; exact MW.sub (by simp [lsub]) (s26 mi2 R _ hs hR (by rw [minI, if_neg (Int32.not_lt.mpr h13)])))
  · skip
    refine mw_iload_n dX7_pays_16 rfl ?_
    refine mw_goto (tgt := 26) dX7_pays_17 (by decide) ?_
    first
      | exact MW.sub (by simp [lsub]) (s26 mi2 R _ hs hR (by rw [minI, if_pos (Int32.not_le.mp h13)]))
      | (rw [em]; exact MW.sub (by simp [lsub]) (s26 mi2 R _ hs hR (by rw [minI, if_neg (Int32.not_lt.mpr h13)])))
theorem dX7_hour_0 : decode fX7_hour.2.1 0 = .ok (.aload_n 0, 1) := by decide +kernel
theorem dX7_hour_1 : decode fX7_hour.2.1 1 = .ok (.invokevirtual 152, 3) := by decide +kernel
theorem dX7_hour_4 : decode fX7_hour.2.1 4 = .ok (.bipush 100, 2) := by decide +kernel
theorem dX7_hour_6 : decode fX7_hour.2.1 6 = .ok (.irem, 1) := by decide +kernel
theorem dX7_hour_7 : decode fX7_hour.2.1 7 = .ok (.aload_n 0, 1) := by decide +kernel
theorem dX7_hour_8 : decode fX7_hour.2.1 8 = .ok (.getfield 9, 3) := by decide +kernel
theorem dX7_hour_11 : decode fX7_hour.2.1 11 = .ok (.bipush 6, 2) := by decide +kernel
theorem dX7_hour_13 : decode fX7_hour.2.1 13 = .ok (.iaload, 1) := by decide +kernel
theorem dX7_hour_14 : decode fX7_hour.2.1 14 = .ok (.if_icmp .ge 7, 3) := by decide +kernel
theorem dX7_hour_17 : decode fX7_hour.2.1 17 = .ok (.iconst 1, 1) := by decide +kernel
theorem dX7_hour_18 : decode fX7_hour.2.1 18 = .ok (.goto 4, 3) := by decide +kernel
theorem dX7_hour_21 : decode fX7_hour.2.1 21 = .ok (.iconst 0, 1) := by decide +kernel
theorem dX7_hour_22 : decode fX7_hour.2.1 22 = .ok (.istore_n 1, 1) := by decide +kernel
theorem dX7_hour_23 : decode fX7_hour.2.1 23 = .ok (.aload_n 0, 1) := by decide +kernel
theorem dX7_hour_24 : decode fX7_hour.2.1 24 = .ok (.invokevirtual 152, 3) := by decide +kernel
theorem dX7_hour_27 : decode fX7_hour.2.1 27 = .ok (.bipush 100, 2) := by decide +kernel
theorem dX7_hour_29 : decode fX7_hour.2.1 29 = .ok (.irem, 1) := by decide +kernel
theorem dX7_hour_30 : decode fX7_hour.2.1 30 = .ok (.aload_n 0, 1) := by decide +kernel
theorem dX7_hour_31 : decode fX7_hour.2.1 31 = .ok (.getfield 9, 3) := by decide +kernel
theorem dX7_hour_34 : decode fX7_hour.2.1 34 = .ok (.bipush 7, 2) := by decide +kernel
theorem dX7_hour_36 : decode fX7_hour.2.1 36 = .ok (.iaload, 1) := by decide +kernel
theorem dX7_hour_37 : decode fX7_hour.2.1 37 = .ok (.if_icmp .ge 7, 3) := by decide +kernel
theorem dX7_hour_40 : decode fX7_hour.2.1 40 = .ok (.iconst 1, 1) := by decide +kernel
theorem dX7_hour_41 : decode fX7_hour.2.1 41 = .ok (.goto 4, 3) := by decide +kernel
theorem dX7_hour_44 : decode fX7_hour.2.1 44 = .ok (.iconst 0, 1) := by decide +kernel
theorem dX7_hour_45 : decode fX7_hour.2.1 45 = .ok (.istore_n 2, 1) := by decide +kernel
theorem dX7_hour_46 : decode fX7_hour.2.1 46 = .ok (.aload_n 0, 1) := by decide +kernel
theorem dX7_hour_47 : decode fX7_hour.2.1 47 = .ok (.getfield 9, 3) := by decide +kernel
theorem dX7_hour_50 : decode fX7_hour.2.1 50 = .ok (.iconst 4, 1) := by decide +kernel
theorem dX7_hour_51 : decode fX7_hour.2.1 51 = .ok (.dup2, 1) := by decide +kernel
theorem dX7_hour_52 : decode fX7_hour.2.1 52 = .ok (.iaload, 1) := by decide +kernel
theorem dX7_hour_53 : decode fX7_hour.2.1 53 = .ok (.iload_n 1, 1) := by decide +kernel
theorem dX7_hour_54 : decode fX7_hour.2.1 54 = .ok (.ifCond .eq 7, 3) := by decide +kernel
theorem dX7_hour_57 : decode fX7_hour.2.1 57 = .ok (.iconst 1, 1) := by decide +kernel
theorem dX7_hour_58 : decode fX7_hour.2.1 58 = .ok (.goto 4, 3) := by decide +kernel
theorem dX7_hour_61 : decode fX7_hour.2.1 61 = .ok (.iconst 0, 1) := by decide +kernel
theorem dX7_hour_62 : decode fX7_hour.2.1 62 = .ok (.iadd, 1) := by decide +kernel
theorem dX7_hour_63 : decode fX7_hour.2.1 63 = .ok (.iastore, 1) := by decide +kernel
theorem dX7_hour_64 : decode fX7_hour.2.1 64 = .ok (.iconst 0, 1) := by decide +kernel
theorem dX7_hour_65 : decode fX7_hour.2.1 65 = .ok (.istore_n 3, 1) := by decide +kernel
theorem dX7_hour_66 : decode fX7_hour.2.1 66 = .ok (.iload_n 3, 1) := by decide +kernel
theorem dX7_hour_67 : decode fX7_hour.2.1 67 = .ok (.aload_n 0, 1) := by decide +kernel
theorem dX7_hour_68 : decode fX7_hour.2.1 68 = .ok (.getfield 9, 3) := by decide +kernel
theorem dX7_hour_71 : decode fX7_hour.2.1 71 = .ok (.iconst 1, 1) := by decide +kernel
theorem dX7_hour_72 : decode fX7_hour.2.1 72 = .ok (.iaload, 1) := by decide +kernel
theorem dX7_hour_73 : decode fX7_hour.2.1 73 = .ok (.if_icmp .ge 18, 3) := by decide +kernel
theorem dX7_hour_76 : decode fX7_hour.2.1 76 = .ok (.iload_n 1, 1) := by decide +kernel
theorem dX7_hour_77 : decode fX7_hour.2.1 77 = .ok (.ifCond .ne 14, 3) := by decide +kernel
theorem dX7_hour_80 : decode fX7_hour.2.1 80 = .ok (.aload_n 0, 1) := by decide +kernel
theorem dX7_hour_81 : decode fX7_hour.2.1 81 = .ok (.iload_n 3, 1) := by decide +kernel
theorem dX7_hour_82 : decode fX7_hour.2.1 82 = .ok (.invokevirtual 156, 3) := by decide +kernel
theorem dX7_hour_85 : decode fX7_hour.2.1 85 = .ok (.iinc 3 1, 3) := by decide +kernel
theorem dX7_hour_88 : decode fX7_hour.2.1 88 = .ok (.goto (-22), 3) := by decide +kernel
theorem dX7_hour_91 : decode fX7_hour.2.1 91 = .ok (.iload_n 2, 1) := by decide +kernel
theorem dX7_hour_92 : decode fX7_hour.2.1 92 = .ok (.ifCond .eq 22, 3) := by decide +kernel
theorem dX7_hour_95 : decode fX7_hour.2.1 95 = .ok (.aload_n 0, 1) := by decide +kernel
theorem dX7_hour_96 : decode fX7_hour.2.1 96 = .ok (.getfield 9, 3) := by decide +kernel
theorem dX7_hour_99 : decode fX7_hour.2.1 99 = .ok (.bipush 9, 2) := by decide +kernel
theorem dX7_hour_101 : decode fX7_hour.2.1 101 = .ok (.dup2, 1) := by decide +kernel
theorem dX7_hour_102 : decode fX7_hour.2.1 102 = .ok (.iaload, 1) := by decide +kernel
theorem dX7_hour_103 : decode fX7_hour.2.1 103 = .ok (.iconst 1, 1) := by decide +kernel
theorem dX7_hour_104 : decode fX7_hour.2.1 104 = .ok (.aload_n 0, 1) := by decide +kernel
theorem dX7_hour_105 : decode fX7_hour.2.1 105 = .ok (.invokevirtual 152, 3) := by decide +kernel
theorem dX7_hour_108 : decode fX7_hour.2.1 108 = .ok (.bipush 24, 2) := by decide +kernel
theorem dX7_hour_110 : decode fX7_hour.2.1 110 = .ok (.irem, 1) := by decide +kernel
theorem dX7_hour_111 : decode fX7_hour.2.1 111 = .ok (.ishl, 1) := by decide +kernel
theorem dX7_hour_112 : decode fX7_hour.2.1 112 = .ok (.ixor, 1) := by decide +kernel
theorem dX7_hour_113 : decode fX7_hour.2.1 113 = .ok (.iastore, 1) := by decide +kernel
theorem dX7_hour_114 : decode fX7_hour.2.1 114 = .ok (.iconst 0, 1) := by decide +kernel
theorem dX7_hour_115 : decode fX7_hour.2.1 115 = .ok (.istore_n 3, 1) := by decide +kernel
theorem dX7_hour_116 : decode fX7_hour.2.1 116 = .ok (.iload_n 3, 1) := by decide +kernel
theorem dX7_hour_117 : decode fX7_hour.2.1 117 = .ok (.aload_n 0, 1) := by decide +kernel
theorem dX7_hour_118 : decode fX7_hour.2.1 118 = .ok (.getfield 9, 3) := by decide +kernel
theorem dX7_hour_121 : decode fX7_hour.2.1 121 = .ok (.iconst 1, 1) := by decide +kernel
theorem dX7_hour_122 : decode fX7_hour.2.1 122 = .ok (.iaload, 1) := by decide +kernel
theorem dX7_hour_123 : decode fX7_hour.2.1 123 = .ok (.if_icmp .ge 50, 3) := by decide +kernel
theorem dX7_hour_126 : decode fX7_hour.2.1 126 = .ok (.aload_n 0, 1) := by decide +kernel
theorem dX7_hour_127 : decode fX7_hour.2.1 127 = .ok (.getfield 9, 3) := by decide +kernel
theorem dX7_hour_130 : decode fX7_hour.2.1 130 = .ok (.iconst 2, 1) := by decide +kernel
theorem dX7_hour_131 : decode fX7_hour.2.1 131 = .ok (.iaload, 1) := by decide +kernel
theorem dX7_hour_132 : decode fX7_hour.2.1 132 = .ok (.bipush 24, 2) := by decide +kernel
theorem dX7_hour_134 : decode fX7_hour.2.1 134 = .ok (.irem, 1) := by decide +kernel
theorem dX7_hour_135 : decode fX7_hour.2.1 135 = .ok (.bipush 6, 2) := by decide +kernel
theorem dX7_hour_137 : decode fX7_hour.2.1 137 = .ok (.if_icmp .ne 36, 3) := by decide +kernel
theorem dX7_hour_140 : decode fX7_hour.2.1 140 = .ok (.aload_n 0, 1) := by decide +kernel
theorem dX7_hour_141 : decode fX7_hour.2.1 141 = .ok (.iload_n 3, 1) := by decide +kernel
theorem dX7_hour_142 : decode fX7_hour.2.1 142 = .ok (.iconst 3, 1) := by decide +kernel
theorem dX7_hour_143 : decode fX7_hour.2.1 143 = .ok (.aload_n 0, 1) := by decide +kernel
theorem dX7_hour_144 : decode fX7_hour.2.1 144 = .ok (.iload_n 3, 1) := by decide +kernel
theorem dX7_hour_145 : decode fX7_hour.2.1 145 = .ok (.iconst 3, 1) := by decide +kernel
theorem dX7_hour_146 : decode fX7_hour.2.1 146 = .ok (.invokevirtual 86, 3) := by decide +kernel
theorem dX7_hour_149 : decode fX7_hour.2.1 149 = .ok (.aload_n 0, 1) := by decide +kernel
theorem dX7_hour_150 : decode fX7_hour.2.1 150 = .ok (.getfield 9, 3) := by decide +kernel
theorem dX7_hour_153 : decode fX7_hour.2.1 153 = .ok (.bipush 8, 2) := by decide +kernel
theorem dX7_hour_155 : decode fX7_hour.2.1 155 = .ok (.iaload, 1) := by decide +kernel
theorem dX7_hour_156 : decode fX7_hour.2.1 156 = .ok (.iadd, 1) := by decide +kernel
theorem dX7_hour_157 : decode fX7_hour.2.1 157 = .ok (.iconst 0, 1) := by decide +kernel
theorem dX7_hour_158 : decode fX7_hour.2.1 158 = .ok (.sipush 9999, 3) := by decide +kernel
theorem dX7_hour_161 : decode fX7_hour.2.1 161 = .ok (.invokestatic 82, 3) := by decide +kernel
theorem dX7_hour_164 : decode fX7_hour.2.1 164 = .ok (.invokevirtual 119, 3) := by decide +kernel
theorem dX7_hour_167 : decode fX7_hour.2.1 167 = .ok (.iinc 3 1, 3) := by decide +kernel
theorem dX7_hour_170 : decode fX7_hour.2.1 170 = .ok (.goto (-54), 3) := by decide +kernel
theorem dX7_hour_173 : decode fX7_hour.2.1 173 = .ok (.aload_n 0, 1) := by decide +kernel
theorem dX7_hour_174 : decode fX7_hour.2.1 174 = .ok (.getfield 9, 3) := by decide +kernel
theorem dX7_hour_177 : decode fX7_hour.2.1 177 = .ok (.iconst 2, 1) := by decide +kernel
theorem dX7_hour_178 : decode fX7_hour.2.1 178 = .ok (.dup2, 1) := by decide +kernel
theorem dX7_hour_179 : decode fX7_hour.2.1 179 = .ok (.iaload, 1) := by decide +kernel
theorem dX7_hour_180 : decode fX7_hour.2.1 180 = .ok (.iconst 1, 1) := by decide +kernel
theorem dX7_hour_181 : decode fX7_hour.2.1 181 = .ok (.iadd, 1) := by decide +kernel
theorem dX7_hour_182 : decode fX7_hour.2.1 182 = .ok (.iastore, 1) := by decide +kernel
theorem dX7_hour_183 : decode fX7_hour.2.1 183 = .ok (.return_, 1) := by decide +kernel
set_option maxRecDepth 100000 in
set_option maxHeartbeats 4000000 in
theorem ok_X7_hour {X : Xb} {S : Sg} {mi : Mem} {o c n : Nat} (hM : MdA S o) (hc : mi (o + 1) 1 = nI c) (hc8 : c ≤ 8) (hn : mi (o + 1) 5 = nI n) (hn14 : n ≤ 14) (ht : MtOk (mi (o + 1)) n) : Ok 6 0 0 fX7_hour X [rf X o] S mi (fun r S' m => r = none ∧ S' = S ∧ m (o + 1) = mHourF (lwM (mi (o + 1)) 0 n) c (mi (o + 1)) ∧ FrM o mi m) := by
  refine Ok.go [some (rf X o), none, none, none] (by decide) (by simp [Value.category]) (Nat.le_of_ble_eq_true rfl) rfl ?_
  obtain ⟨k_o, ⟨r_o_now, k_o_now⟩, ⟨r_o_image, k_o_image⟩, ⟨r_o_aside, k_o_aside⟩, ⟨r_o_seen, k_o_seen⟩, ⟨r_o_unlike, k_o_unlike⟩, ⟨r_o_tape, k_o_tape⟩, ⟨r_o_keys, k_o_keys⟩, ⟨r_o_keyAt, k_o_keyAt⟩, ⟨r_o_code, k_o_code⟩, ⟨r_o_waits, k_o_waits⟩, ⟨r_o_tested, k_o_tested⟩, ⟨r_o_stack, k_o_stack⟩, ⟨r_o_facts, k_o_facts⟩, ⟨r_o_sorts, k_o_sorts⟩, ⟨r_o_sizes, k_o_sizes⟩, ⟨r_o_cells, k_o_cells⟩, ⟨r_o_holds, k_o_holds⟩, ⟨r_o_holdsA, k_o_holdsA⟩, ⟨r_o_holdsB, k_o_holdsB⟩, ⟨r_o_heldCells, k_o_heldCells⟩, ⟨r_o_moved, k_o_moved⟩, ⟨r_o_tells, k_o_tells⟩⟩ := id hM
  generalize hA : mi (o + 1) = A at hc hn ht ⊢
  generalize hlw : lwM A 0 n = lw
  have s173 : ∀ (m : Mem), FrM o mi m → hEnd (m (o + 1)) = mHourF lw c A → MW X fX7_hour (rmOf 6 0 0) 0 0 173 [some (rf X o), none, none, none] [] S m (mQ X 0 0 (fun r S' m => r = none ∧ S' = S ∧ m (o + 1) = mHourF lw c A ∧ FrM o mi m)) := by
    intro m hF he
    refine mw_aload_n dX7_hour_173 rfl ?_
    refine mw_getr dX7_hour_174 fl_X7_9 rfl (by assumption) (by assumption) ?_
    refine mw_iconst (v := 2) dX7_hour_177 (by decide) ?_
    refine mw_dup2 dX7_hour_178 rfl rfl ?_
    refine mw_ialdK (k := 2) dX7_hour_179 (by assumption) (rfl) (by decide) (by decide) ?_
    refine mw_iconst (v := 1) dX7_hour_180 (by decide) ?_
    refine mw_iadd dX7_hour_181 ?_
    refine mw_iastK (k := 2) dX7_hour_182 (by assumption) (rfl) (by decide) (by decide) ?_
    exact mw_vret dX7_hour_183 rfl (by decide) (by decide) (⟨rfl, rfl, by rw [m_up_row, ← he, hEnd], hF.up⟩)
  have s116 : ∀ (m : Mem), FrM o mi m → m (o + 1) 1 = nI c → hEnd (mWage c (m (o + 1))) = mHourF lw c A → MW X fX7_hour (rmOf 6 0 0) 0 0 116 [some (rf X o), none, none, some (.int (nI 0))] [] S m (mQ X 0 0 (fun r S' m => r = none ∧ S' = S ∧ m (o + 1) = mHourF lw c A ∧ FrM o mi m)) := by
    intro m hF h1 he
    have w1 : ∀ k, (if jr (m (o + 1) 2) 24 = 6 then mWageTo (m (o + 1)) k else m (o + 1)) 1 = nI c := by
      intro k; split
      · rw [mWageTo_lo (by decide), h1]
      · exact h1
    have w2 : ∀ k, (if jr (m (o + 1) 2) 24 = 6 then mWageTo (m (o + 1)) k else m (o + 1)) 2 = m (o + 1) 2 := by
      intro k; split
      · rw [mWageTo_lo (by decide)]
      · rfl
    have lend : ∀ k, k = c → ∀ m2, m2 (o + 1) = (if jr (m (o + 1) 2) 24 = 6 then mWageTo (m (o + 1)) k else m (o + 1)) → FrM o mi m2 → MW X fX7_hour (rmOf 6 0 0) 0 0 116 [some (rf X o), none, none, some (.int (nI k))] [] S m2 (mQ X 0 0 (fun r S' m => r = none ∧ S' = S ∧ m (o + 1) = mHourF lw c A ∧ FrM o mi m)) := by
      intro k hk m2 h2 hF2
      subst hk
      have e1 : m2 (o + 1) 1 = nI k := by rw [h2]; exact w1 k
      refine mw_iload_n dX7_hour_116 rfl ?_
      refine mw_aload_n dX7_hour_117 rfl ?_
      refine mw_getr dX7_hour_118 fl_X7_9 rfl (by assumption) (by assumption) ?_
      refine mw_iconst (v := 1) dX7_hour_121 (by decide) ?_
      refine mw_ialdK (k := 1) dX7_hour_122 (by assumption) (rfl) (by decide) (by decide) ?_
      rw [e1]
      refine mw_icmp_ge (tgt := 173) dX7_hour_123 (by decide) (fun h123 => ?_) (fun h123 => ?_)
      · skip
        exact MW.sub (by simp [lsub]) (s173 m2 hF2 (by rw [h2, ← he, mWage]))
      · skip
        exact absurd (Int32.le_refl _) h123
    have lstep : ∀ k, k < c → (∀ j, j = k + 1 → ∀ m2, m2 (o + 1) = (if jr (m (o + 1) 2) 24 = 6 then mWageTo (m (o + 1)) j else m (o + 1)) → FrM o mi m2 → MW X fX7_hour (rmOf 6 0 0) 0 0 116 [some (rf X o), none, none, some (.int (nI j))] [] S m2 (mQ X 0 0 (fun r S' m => r = none ∧ S' = S ∧ m (o + 1) = mHourF lw c A ∧ FrM o mi m))) → ∀ m2, m2 (o + 1) = (if jr (m (o + 1) 2) 24 = 6 then mWageTo (m (o + 1)) k else m (o + 1)) → FrM o mi m2 → MW X fX7_hour (rmOf 6 0 0) 0 0 116 [some (rf X o), none, none, some (.int (nI k))] [] S m2 (mQ X 0 0 (fun r S' m => r = none ∧ S' = S ∧ m (o + 1) = mHourF lw c A ∧ FrM o mi m)) := by
      intro k hk ih m2 h2 hF2
      have ih := ih (k + 1) rfl
      have e1 : m2 (o + 1) 1 = nI c := by rw [h2]; exact w1 k
      have e2 : m2 (o + 1) 2 = m (o + 1) 2 := by rw [h2]; exact w2 k
      refine mw_iload_n dX7_hour_116 rfl ?_
      refine mw_aload_n dX7_hour_117 rfl ?_
      refine mw_getr dX7_hour_118 fl_X7_9 rfl (by assumption) (by assumption) ?_
      refine mw_iconst (v := 1) dX7_hour_121 (by decide) ?_
      refine mw_ialdK (k := 1) dX7_hour_122 (by assumption) (rfl) (by decide) (by decide) ?_
      rw [e1]
      refine mw_icmp_ge (tgt := 173) dX7_hour_123 (by decide) (fun h123 => ?_) (fun h123 => ?_)
      · skip
        first
          | exact absurd h123 (nI_ge hk (by omega))
          | exact MW.sub (by simp [lsub]) (s173 m2 hF2 (by rw [h2, if_neg h137, ← he, mWage, if_neg h137]))
      · skip
        refine mw_aload_n dX7_hour_126 rfl ?_
        refine mw_getr dX7_hour_127 fl_X7_9 rfl (by assumption) (by assumption) ?_
        refine mw_iconst (v := 2) dX7_hour_130 (by decide) ?_
        refine mw_ialdK (k := 2) dX7_hour_131 (by assumption) (rfl) (by decide) (by decide) ?_
        rw [e2]
        refine mw_bipush (v := 24) dX7_hour_132 (by decide) ?_
        refine mw_irem dX7_hour_134 (by decide) ?_
        refine mw_bipush (v := 6) dX7_hour_135 (by decide) ?_
        refine mw_icmp_ne (tgt := 173) dX7_hour_137 (by decide) (fun h137 => ?_) (fun h137 => ?_)
        · skip
          first
            | exact absurd h123 (nI_ge hk (by omega))
            | exact MW.sub (by simp [lsub]) (s173 m2 hF2 (by rw [h2, if_neg h137, ← he, mWage, if_neg h137]))
        · skip
          refine mw_aload_n dX7_hour_140 rfl ?_
          refine mw_iload_n dX7_hour_141 rfl ?_
          refine mw_iconst (v := 3) dX7_hour_142 (by decide) ?_
          refine mw_aload_n dX7_hour_143 rfl ?_
          refine mw_iload_n dX7_hour_144 rfl ?_
          refine mw_iconst (v := 3) dX7_hour_145 (by decide) ?_
          refine mw_cVI (g := fX7_of) dX7_hour_146 ml_X7_86 mfX7_of (ok_X7_of hM (a := k) (w := 3) (by omega) (by decide)) (by assumption) rfl rfl (Nat.le_of_ble_eq_true rfl) ⟨by decide, by decide⟩ ⟨by decide, by decide⟩ ?_
          refine mw_aload_n dX7_hour_149 rfl ?_
          refine mw_getr dX7_hour_150 fl_X7_9 rfl (by assumption) (by assumption) ?_
          refine mw_bipush (v := 8) dX7_hour_153 (by decide) ?_
          refine mw_ialdK (k := 8) dX7_hour_155 (by assumption) (rfl) (by decide) (by decide) ?_
          refine mw_iadd dX7_hour_156 ?_
          refine mw_iconst (v := 0) dX7_hour_157 (by decide) ?_
          refine mw_sipush (v := 9999) dX7_hour_158 (by decide) ?_
          refine mw_cSI (g := fX7_within) dX7_hour_161 ml_X7_82 mfX7_within (ok_X7_within) rfl rfl (Nat.le_of_ble_eq_true rfl) ⟨by decide, by decide⟩ ⟨by decide, by decide⟩ ?_
          refine mw_cVV (g := fX7_put) dX7_hour_164 ml_X7_119 mfX7_put (ok_X7_put hM (a := k) (w := 3) (by omega) (by decide)) (by assumption) rfl rfl (Nat.le_of_ble_eq_true rfl) ⟨by decide, by decide⟩ ⟨by decide, by decide⟩ ?_
          refine mw_iincK (k := k) dX7_hour_167 rfl rfl (by decide) ?_
          refine mw_goto (tgt := 116) dX7_hour_170 (by decide) ?_
          refine MW.sub (by simp [lsub]) (ih _ ?_ hF2.up)
          rw [if_pos h137] at h2 ⊢
          rw [m_up_row, h2]; rfl
    exact mw_dn (P := fun k => ∀ m2, m2 (o + 1) = (if jr (m (o + 1) 2) 24 = 6 then mWageTo (m (o + 1)) k else m (o + 1)) → FrM o mi m2 → MW X fX7_hour (rmOf 6 0 0) 0 0 116 [some (rf X o), none, none, some (.int (nI k))] [] S m2 (mQ X 0 0 (fun r S' m => r = none ∧ S' = S ∧ m (o + 1) = mHourF lw c A ∧ FrM o mi m))) c (lend c rfl) (fun k hk ih => lstep k hk (fun j hj => by subst hj; exact ih)) m (by simp only [mWageTo]; split <;> rfl) hF
  have s91 : ∀ (m : Mem) (b : Int32), FrM o mi m → m (o + 1) 1 = nI c → (b = 0 ↔ ¬ dr2 A < A 7) → hEnd (mWage c (hSm A (m (o + 1)))) = mHourF lw c A → MW X fX7_hour (rmOf 6 0 0) 0 0 91 [some (rf X o), none, some (.int b), none] [] S m (mQ X 0 0 (fun r S' m => r = none ∧ S' = S ∧ m (o + 1) = mHourF lw c A ∧ FrM o mi m)) := by
    intro m b hF h1 hb he
    refine mw_iload_n dX7_hour_91 rfl ?_
    refine mw_if_eq (tgt := 114) dX7_hour_92 (by decide) (fun h92 => ?_) (fun h92 => ?_)
    · skip
      refine mw_iconst (v := 0) dX7_hour_114 (by decide) ?_
      refine mw_istN 3 dX7_hour_115 rfl (by decide) ?_
      first
        | exact MW.sub (by simp [lsub, nI_0]) (s116 m hF h1 (by rw [← he, hSm, if_neg (hb.mp h92)]))
        | (refine MW.sub (by simp [lsub, nI_0]) (s116 _ hF.up.up ?_ ?_)
           · simp only [m_up_row]; simp [upd, h1]
           · have hp : dr2 A < A 7 := Classical.not_not.mp fun q => h92 (hb.mpr q)
             rw [← he, hSm, if_pos hp]
             simp only [m_up_row])
    · skip
      refine mw_aload_n dX7_hour_95 rfl ?_
      refine mw_getr dX7_hour_96 fl_X7_9 rfl (by assumption) (by assumption) ?_
      refine mw_bipush (v := 9) dX7_hour_99 (by decide) ?_
      refine mw_dup2 dX7_hour_101 rfl rfl ?_
      refine mw_ialdK (k := 9) dX7_hour_102 (by assumption) (rfl) (by decide) (by decide) ?_
      refine mw_iconst (v := 1) dX7_hour_103 (by decide) ?_
      refine mw_aload_n dX7_hour_104 rfl ?_
      refine mw_cVI (g := fX7_draw) dX7_hour_105 ml_X7_152 mfX7_draw (ok_X7_draw hM) (by assumption) rfl rfl (Nat.le_of_ble_eq_true rfl) ⟨by decide, by decide⟩ ⟨by decide, by decide⟩ ?_
      refine mw_bipush (v := 24) dX7_hour_108 (by decide) ?_
      refine mw_irem dX7_hour_110 (by decide) ?_
      refine mw_ishl dX7_hour_111 ?_
      refine mw_ixor dX7_hour_112 ?_
      refine mw_iastK (k := 9) dX7_hour_113 (by assumption) (rfl) (by decide) (by decide) ?_
      refine mw_iconst (v := 0) dX7_hour_114 (by decide) ?_
      refine mw_istN 3 dX7_hour_115 rfl (by decide) ?_
      first
        | exact MW.sub (by simp [lsub, nI_0]) (s116 m hF h1 (by rw [← he, hSm, if_neg (hb.mp h92)]))
        | (refine MW.sub (by simp [lsub, nI_0]) (s116 _ hF.up.up ?_ ?_)
           · simp only [m_up_row]; simp [upd, h1]
           · have hp : dr2 A < A 7 := Classical.not_not.mp fun q => h92 (hb.mpr q)
             rw [← he, hSm, if_pos hp]
             simp only [m_up_row])
  have s66 : ∀ (m : Mem) (a b : Int32), FrM o mi m → (a = 0 ↔ ¬ dr1 A < A 6) → (b = 0 ↔ ¬ dr2 A < A 7) → m (o + 1) = (if dr1 A < A 6 then upd (hA0 A) 4 (A 4 + 1) else hA0 A) → MW X fX7_hour (rmOf 6 0 0) 0 0 66 [some (rf X o), some (.int a), some (.int b), some (.int (nI 0))] [] S m (mQ X 0 0 (fun r S' m => r = none ∧ S' = S ∧ m (o + 1) = mHourF lw c A ∧ FrM o mi m)) := by
    intro m a b hF ha hb hm
    have v1 : ∀ k, (if dr1 A < A 6 then upd (hA0 A) 4 (A 4 + 1) else mPaysTo lw (hA0 A) k) 1 = nI c := by
      intro k; split
      · simp [upd, hA0, hc]
      · rw [mPaysTo_lo (by decide) (by decide)]; simp [upd, hA0, hc]
    have lend : ∀ k, k = c → ∀ m2, m2 (o + 1) = (if dr1 A < A 6 then upd (hA0 A) 4 (A 4 + 1) else mPaysTo lw (hA0 A) k) → FrM o mi m2 → MW X fX7_hour (rmOf 6 0 0) 0 0 66 [some (rf X o), some (.int a), some (.int b), some (.int (nI k))] [] S m2 (mQ X 0 0 (fun r S' m => r = none ∧ S' = S ∧ m (o + 1) = mHourF lw c A ∧ FrM o mi m)) := by
      intro k hk m2 h2 hF2
      subst hk
      have e1 : m2 (o + 1) 1 = nI k := by rw [h2]; exact v1 k
      refine mw_iload_n dX7_hour_66 rfl ?_
      refine mw_aload_n dX7_hour_67 rfl ?_
      refine mw_getr dX7_hour_68 fl_X7_9 rfl (by assumption) (by assumption) ?_
      refine mw_iconst (v := 1) dX7_hour_71 (by decide) ?_
      refine mw_ialdK (k := 1) dX7_hour_72 (by assumption) (rfl) (by decide) (by decide) ?_
      rw [e1]
      refine mw_icmp_ge (tgt := 91) dX7_hour_73 (by decide) (fun h73 => ?_) (fun h73 => ?_)
      · skip
        exact MW.sub (by simp [lsub]) (s91 m2 b hF2 e1 hb (by rw [h2, mHourF, mPay]))
      · skip
        exact absurd (Int32.le_refl _) h73
    have lstep : ∀ k, k < c → (∀ j, j = k + 1 → ∀ m2, m2 (o + 1) = (if dr1 A < A 6 then upd (hA0 A) 4 (A 4 + 1) else mPaysTo lw (hA0 A) j) → FrM o mi m2 → MW X fX7_hour (rmOf 6 0 0) 0 0 66 [some (rf X o), some (.int a), some (.int b), some (.int (nI j))] [] S m2 (mQ X 0 0 (fun r S' m => r = none ∧ S' = S ∧ m (o + 1) = mHourF lw c A ∧ FrM o mi m))) → ∀ m2, m2 (o + 1) = (if dr1 A < A 6 then upd (hA0 A) 4 (A 4 + 1) else mPaysTo lw (hA0 A) k) → FrM o mi m2 → MW X fX7_hour (rmOf 6 0 0) 0 0 66 [some (rf X o), some (.int a), some (.int b), some (.int (nI k))] [] S m2 (mQ X 0 0 (fun r S' m => r = none ∧ S' = S ∧ m (o + 1) = mHourF lw c A ∧ FrM o mi m)) := by
      intro k hk ih m2 h2 hF2
      have ih := ih (k + 1) rfl
      have e1 : m2 (o + 1) 1 = nI c := by rw [h2]; exact v1 k
      have tl : tail66 A (m2 (o + 1)) := by
        rw [h2]; split
        · exact ((tail66.rf A).up (by decide)).up (by decide)
        · intro j hj; rw [mPaysTo_hi k (by omega) j hj]; exact ((tail66.rf A).up (by decide)) j hj
      have e5 : m2 (o + 1) 5 = nI n := by
        rw [h2]; split
        · simp [upd, hA0, hn]
        · rw [mPaysTo_lo (by decide) (by decide)]; simp [upd, hA0, hn]
      have el : lwM (m2 (o + 1)) 0 n = lw := (lwM_congr tl).trans hlw
      refine mw_iload_n dX7_hour_66 rfl ?_
      refine mw_aload_n dX7_hour_67 rfl ?_
      refine mw_getr dX7_hour_68 fl_X7_9 rfl (by assumption) (by assumption) ?_
      refine mw_iconst (v := 1) dX7_hour_71 (by decide) ?_
      refine mw_ialdK (k := 1) dX7_hour_72 (by assumption) (rfl) (by decide) (by decide) ?_
      rw [e1]
      refine mw_icmp_ge (tgt := 91) dX7_hour_73 (by decide) (fun h73 => ?_) (fun h73 => ?_)
      · skip
        first
          | exact absurd h73 (nI_ge hk (by omega))
          | (have hp : dr1 A < A 6 := Classical.not_not.mp fun q => h77 (ha.mpr q)
             exact MW.sub (by simp [lsub]) (s91 m2 b hF2 e1 hb (by rw [h2, if_pos hp, mHourF, mPay, if_pos hp])))
      · skip
        refine mw_iload_n dX7_hour_76 rfl ?_
        refine mw_if_ne (tgt := 91) dX7_hour_77 (by decide) (fun h77 => ?_) (fun h77 => ?_)
        · skip
          first
            | exact absurd h73 (nI_ge hk (by omega))
            | (have hp : dr1 A < A 6 := Classical.not_not.mp fun q => h77 (ha.mpr q)
               exact MW.sub (by simp [lsub]) (s91 m2 b hF2 e1 hb (by rw [h2, if_pos hp, mHourF, mPay, if_pos hp])))
        · skip
          refine mw_aload_n dX7_hour_80 rfl ?_
          refine mw_iload_n dX7_hour_81 rfl ?_
          refine mw_callV (g := fX7_pays) dX7_hour_82 ml_X7_156 mfX7_pays (ok_X7_pays hM (by omega) e5 hn14 (ht.congr tl)) (by assumption) rfl rfl (Nat.le_of_ble_eq_true rfl) ⟨by decide, by decide⟩ ⟨by decide, by decide⟩ (fun r S2 mi2 hp => ?_)
          obtain ⟨rfl, e1, hm3, hf3⟩ := hp
          rw [e1]
          rw [el, h2, if_neg (ha.mp h77)] at hm3
          refine mw_iincK (k := k) dX7_hour_85 rfl rfl (by decide) ?_
          refine mw_goto (tgt := 66) dX7_hour_88 (by decide) ?_
          refine MW.sub (by simp [lsub]) (ih _ ?_ (hF2.tr hf3))
          rw [hm3, if_neg (ha.mp h77)]; rfl
    exact mw_dn (P := fun k => ∀ m2, m2 (o + 1) = (if dr1 A < A 6 then upd (hA0 A) 4 (A 4 + 1) else mPaysTo lw (hA0 A) k) → FrM o mi m2 → MW X fX7_hour (rmOf 6 0 0) 0 0 66 [some (rf X o), some (.int a), some (.int b), some (.int (nI k))] [] S m2 (mQ X 0 0 (fun r S' m => r = none ∧ S' = S ∧ m (o + 1) = mHourF lw c A ∧ FrM o mi m))) c (lend c rfl) (fun k hk ih => lstep k hk (fun j hj => by subst hj; exact ih)) m (by simp only [mPaysTo]; exact hm) hF
  have hF0 := FrM.rf o mi
  have eR : ∀ v, m_up mi (o + 1) 0 v (o + 1) = upd A 0 v := fun v => by rw [m_up_row, hA]
  have s45 : ∀ (a b : Int32), (a = 0 ↔ ¬ dr1 A < A 6) → (b = 0 ↔ ¬ dr2 A < A 7) → MW X fX7_hour (rmOf 6 0 0) 0 0 45 [some (rf X o), some (.int a), none, none] [.int b] S (m_up mi (o + 1) 0 (nz1 (nz1 (A 0)))) (mQ X 0 0 (fun r S' m => r = none ∧ S' = S ∧ m (o + 1) = mHourF lw c A ∧ FrM o mi m)) := by
    intro a b ha hb
    refine mw_istN 2 dX7_hour_45 rfl (by decide) ?_
    refine mw_aload_n dX7_hour_46 rfl ?_
    refine mw_getr dX7_hour_47 fl_X7_9 rfl (by assumption) (by assumption) ?_
    refine mw_iconst (v := 4) dX7_hour_50 (by decide) ?_
    refine mw_dup2 dX7_hour_51 rfl rfl ?_
    refine mw_ialdK (k := 4) dX7_hour_52 (by assumption) (rfl) (by decide) (by decide) ?_
    refine mw_iload_n dX7_hour_53 rfl ?_
    refine mw_if_eq (tgt := 61) dX7_hour_54 (by decide) (fun h54 => ?_) (fun h54 => ?_)
    · skip
      refine mw_iconst (v := 0) dX7_hour_61 (by decide) ?_
      refine mw_iadd dX7_hour_62 ?_
      refine mw_iastK (k := 4) dX7_hour_63 (by assumption) (rfl) (by decide) (by decide) ?_
      refine mw_iconst (v := 0) dX7_hour_64 (by decide) ?_
      refine mw_istN 3 dX7_hour_65 rfl (by decide) ?_
      refine MW.sub (by simp [lsub, nI_0]) (s66 _ a b hF0.up.up ha hb ?_)
      rw [m_up_row, eR]
      first
        | (rw [if_neg (ha.mp h54), Int32.add_zero, upd_id]; rfl)
        | (rw [if_pos (Classical.not_not.mp fun q => h54 (ha.mpr q))]; rfl)
    · skip
      refine mw_iconst (v := 1) dX7_hour_57 (by decide) ?_
      refine mw_goto (tgt := 62) dX7_hour_58 (by decide) ?_
      refine mw_iadd dX7_hour_62 ?_
      refine mw_iastK (k := 4) dX7_hour_63 (by assumption) (rfl) (by decide) (by decide) ?_
      refine mw_iconst (v := 0) dX7_hour_64 (by decide) ?_
      refine mw_istN 3 dX7_hour_65 rfl (by decide) ?_
      refine MW.sub (by simp [lsub, nI_0]) (s66 _ a b hF0.up.up ha hb ?_)
      rw [m_up_row, eR]
      first
        | (rw [if_neg (ha.mp h54), Int32.add_zero, upd_id]; rfl)
        | (rw [if_pos (Classical.not_not.mp fun q => h54 (ha.mpr q))]; rfl)
  have s22 : ∀ (a : Int32), (a = 0 ↔ ¬ dr1 A < A 6) → MW X fX7_hour (rmOf 6 0 0) 0 0 22 [some (rf X o), none, none, none] [.int a] S (m_up mi (o + 1) 0 (nz1 (A 0))) (mQ X 0 0 (fun r S' m => r = none ∧ S' = S ∧ m (o + 1) = mHourF lw c A ∧ FrM o mi m)) := by
    intro a ha
    refine mw_istN 1 dX7_hour_22 rfl (by decide) ?_
    refine mw_aload_n dX7_hour_23 rfl ?_
    refine mw_cVI (g := fX7_draw) dX7_hour_24 ml_X7_152 mfX7_draw (ok_X7_draw hM) (by assumption) rfl rfl (Nat.le_of_ble_eq_true rfl) ⟨by decide, by decide⟩ ⟨by decide, by decide⟩ ?_
    rw [eR, upd_at, m_up_up]
    refine mw_bipush (v := 100) dX7_hour_27 (by decide) ?_
    refine mw_irem dX7_hour_29 (by decide) ?_
    refine mw_aload_n dX7_hour_30 rfl ?_
    refine mw_getr dX7_hour_31 fl_X7_9 rfl (by assumption) (by assumption) ?_
    refine mw_bipush (v := 7) dX7_hour_34 (by decide) ?_
    refine mw_ialdK (k := 7) dX7_hour_36 (by assumption) (rfl) (by decide) (by decide) ?_
    rw [eR, upd_ne (show (7 : Nat) ≠ 0 by decide)]
    refine mw_icmp_ge (tgt := 44) dX7_hour_37 (by decide) (fun h37 => ?_) (fun h37 => ?_)
    · skip
      refine mw_iconst (v := 0) dX7_hour_44 (by decide) ?_
      first
        | exact MW.sub (by simp [lsub]) (s45 a 0 ha ⟨fun _ => Int32.not_lt.mpr h37, fun _ => rfl⟩)
        | exact MW.sub (by simp [lsub]) (s45 a 1 ha ⟨fun q => absurd q (by decide), fun q => absurd (show dr2 A < A 7 from Int32.not_le.mp h37) q⟩)
    · skip
      refine mw_iconst (v := 1) dX7_hour_40 (by decide) ?_
      refine mw_goto (tgt := 45) dX7_hour_41 (by decide) ?_
      first
        | exact MW.sub (by simp [lsub]) (s45 a 0 ha ⟨fun _ => Int32.not_lt.mpr h37, fun _ => rfl⟩)
        | exact MW.sub (by simp [lsub]) (s45 a 1 ha ⟨fun q => absurd q (by decide), fun q => absurd (show dr2 A < A 7 from Int32.not_le.mp h37) q⟩)
  refine mw_aload_n dX7_hour_0 rfl ?_
  refine mw_cVI (g := fX7_draw) dX7_hour_1 ml_X7_152 mfX7_draw (ok_X7_draw hM) (by assumption) rfl rfl (Nat.le_of_ble_eq_true rfl) ⟨by decide, by decide⟩ ⟨by decide, by decide⟩ ?_
  rw [hA]
  refine mw_bipush (v := 100) dX7_hour_4 (by decide) ?_
  refine mw_irem dX7_hour_6 (by decide) ?_
  refine mw_aload_n dX7_hour_7 rfl ?_
  refine mw_getr dX7_hour_8 fl_X7_9 rfl (by assumption) (by assumption) ?_
  refine mw_bipush (v := 6) dX7_hour_11 (by decide) ?_
  refine mw_ialdK (k := 6) dX7_hour_13 (by assumption) (rfl) (by decide) (by decide) ?_
  rw [eR, upd_ne (show (6 : Nat) ≠ 0 by decide)]
  refine mw_icmp_ge (tgt := 21) dX7_hour_14 (by decide) (fun h14 => ?_) (fun h14 => ?_)
  · skip
    refine mw_iconst (v := 0) dX7_hour_21 (by decide) ?_
    first
      | exact s22 0 ⟨fun _ => Int32.not_lt.mpr h14, fun _ => rfl⟩
      | exact s22 1 ⟨fun q => absurd q (by decide), fun q => absurd (show dr1 A < A 6 from Int32.not_le.mp h14) q⟩
  · skip
    refine mw_iconst (v := 1) dX7_hour_17 (by decide) ?_
    refine mw_goto (tgt := 22) dX7_hour_18 (by decide) ?_
    first
      | exact s22 0 ⟨fun _ => Int32.not_lt.mpr h14, fun _ => rfl⟩
      | exact s22 1 ⟨fun q => absurd q (by decide), fun q => absurd (show dr1 A < A 6 from Int32.not_le.mp h14) q⟩
end
section
/-! Town: new attics, choices, copies -/
theorem mw_aastN {X : Xb} {fr : Fr} {R : Room} {kc sl pc : Nat} {L : List (Option Value)} {st : List Value} {S : Sg} {mi : Mem} {Q : Qt} {i z : Nat} {j : Int32} (hd : decode fr.2.1 pc = .ok (.aastore, 1)) (hk : Kd S i 14 z) (hin : vp_in j z) (kk : MW X fr R kc sl (pc + 1) L st (S.1, S.2.1, r_up S.2.2 i j.toNatClampNeg none) mi Q) : MW X fr R kc sl pc L (.null :: .int j :: .ref (X.1 + i) :: st) S mi Q := by
  intro p l e s m args below meth c H locs ls C hS hP hL
  have hat := hP.2 i _ (ws_at hk.1)
  rw [cell_ref hk (by decide)] at hat
  have hK := C.2.2.2.2.2.2.2.2.2.1
  refine va_WaastN (C := RX4) C.1 C.2.1 hat ((hK.2 6 _ rfl).1 z (fun j => va_rf ((S.2.2 i j).map (X.1 + ·)))) (fun h => by cases h) (by show ¬ (j < 0 ∨ (arrV _ _ _).slots.size ≤ _); rw [arrV_size]; exact hin) rfl rfl hd fun H1 e1 e2 e3 => ?_
  refine kk p l e s m args below meth c H1 _ ls C (hS.put e2 e3 (Nat.le_add_right _ _)) (Wp_put (i := i) hP rfl (fun j hj => cell_eq rfl rfl (r_up_ne hj)) e2 e3 ?_) hL
  rw [cell_ref (S := (S.1, S.2.1, r_up S.2.2 i j.toNatClampNeg none)) (z := z) hk (by decide)]
  show H1[X.1 + i]? = some (vp_cell _ _)
  rw [e1, vp_cell_q, vp_cell_q, arrV_store]
  congr 2
  funext q
  by_cases hq : q = j.toNatClampNeg
  · subst hq; simp [updV, r_up, va_rf]
  · simp [updV, r_up, hq]
def new5 (B : Nat → Int32) (n : Nat) (k f w : Int32) : Nat → Int32 := upd (upd (upd (upd (upd B (26 + 5 * n) k) (26 + 5 * n + 1) f) (26 + 5 * n + 2) w) (26 + 5 * n + 3) 0) (26 + 5 * n + 4) 0
theorem tv_new {n t : Nat} {m : Mem} {B : Nat → Int32} {k f w : Int32} (hn : n < 8) (h : eqOn (26 + 5 * n) (tv m t) B) : eqOn (26 + 5 * (n + 1)) (tv (m_up (m_up (m_up (m_up (m_up m (t + 9 + n) 0 k) (t + 9 + n) 1 f) (t + 9 + n) 2 w) (t + 9 + n) 3 0) (t + 9 + n) 4 0) t) (new5 B n k f w) := by
  have h0 : eqOn (26 + 5 * (n + 1)) (tv m t) (fun j => if j < 26 + 5 * n then B j else tv m t j) := by
    intro j hj
    by_cases c : j < 26 + 5 * n
    · simp [c, h j c]
    · simp [c]
  have h1 := tv_upA (v := 0) hn (show 4 < 5 by decide) (tv_upA (v := 0) hn (show 3 < 5 by decide) (tv_upA (v := w) hn (show 2 < 5 by decide) (tv_upA (v := f) hn (show 1 < 5 by decide) (tv_upA (v := k) hn (show 0 < 5 by decide) h0))))
  intro j hj
  rw [h1 j hj]
  simp only [new5, upd]
  grind
def comesF (A : Nat → Int32) (n : Nat) (k f w : Int32) : Nat → Int32 := upd (new5 A n k f w) 1 (nI (n + 1))
theorem dX5_addAttic_0 : decode fX5_addAttic.2.1 0 = .ok (.aload_n 0, 1) := by decide +kernel
theorem dX5_addAttic_1 : decode fX5_addAttic.2.1 1 = .ok (.getfield 59, 3) := by decide +kernel
theorem dX5_addAttic_4 : decode fX5_addAttic.2.1 4 = .ok (.bipush 8, 2) := by decide +kernel
theorem dX5_addAttic_6 : decode fX5_addAttic.2.1 6 = .ok (.if_icmp .lt 6, 3) := by decide +kernel
theorem dX5_addAttic_9 : decode fX5_addAttic.2.1 9 = .ok (.ldc 84, 2) := by decide +kernel
theorem dX5_addAttic_11 : decode fX5_addAttic.2.1 11 = .ok (.ireturn, 1) := by decide +kernel
theorem dX5_addAttic_12 : decode fX5_addAttic.2.1 12 = .ok (.aload_n 0, 1) := by decide +kernel
theorem dX5_addAttic_13 : decode fX5_addAttic.2.1 13 = .ok (.getfield 20, 3) := by decide +kernel
theorem dX5_addAttic_16 : decode fX5_addAttic.2.1 16 = .ok (.aload_n 0, 1) := by decide +kernel
theorem dX5_addAttic_17 : decode fX5_addAttic.2.1 17 = .ok (.getfield 59, 3) := by decide +kernel
theorem dX5_addAttic_20 : decode fX5_addAttic.2.1 20 = .ok (.aaload, 1) := by decide +kernel
theorem dX5_addAttic_21 : decode fX5_addAttic.2.1 21 = .ok (.iload_n 1, 1) := by decide +kernel
theorem dX5_addAttic_22 : decode fX5_addAttic.2.1 22 = .ok (.iload_n 2, 1) := by decide +kernel
theorem dX5_addAttic_23 : decode fX5_addAttic.2.1 23 = .ok (.iload_n 3, 1) := by decide +kernel
theorem dX5_addAttic_24 : decode fX5_addAttic.2.1 24 = .ok (.invokevirtual 85, 3) := by decide +kernel
theorem dX5_addAttic_27 : decode fX5_addAttic.2.1 27 = .ok (.aload_n 0, 1) := by decide +kernel
theorem dX5_addAttic_28 : decode fX5_addAttic.2.1 28 = .ok (.dup, 1) := by decide +kernel
theorem dX5_addAttic_29 : decode fX5_addAttic.2.1 29 = .ok (.getfield 59, 3) := by decide +kernel
theorem dX5_addAttic_32 : decode fX5_addAttic.2.1 32 = .ok (.iconst 1, 1) := by decide +kernel
theorem dX5_addAttic_33 : decode fX5_addAttic.2.1 33 = .ok (.iadd, 1) := by decide +kernel
theorem dX5_addAttic_34 : decode fX5_addAttic.2.1 34 = .ok (.putfield 59, 3) := by decide +kernel
theorem dX5_addAttic_37 : decode fX5_addAttic.2.1 37 = .ok (.aload_n 0, 1) := by decide +kernel
theorem dX5_addAttic_38 : decode fX5_addAttic.2.1 38 = .ok (.getfield 59, 3) := by decide +kernel
theorem dX5_addAttic_41 : decode fX5_addAttic.2.1 41 = .ok (.iconst 1, 1) := by decide +kernel
theorem dX5_addAttic_42 : decode fX5_addAttic.2.1 42 = .ok (.isub, 1) := by decide +kernel
theorem dX5_addAttic_43 : decode fX5_addAttic.2.1 43 = .ok (.ireturn, 1) := by decide +kernel
set_option maxRecDepth 100000 in
set_option maxHeartbeats 4000000 in
theorem ok_X5_addAttic {X : Xb} {S : Sg} {mi : Mem} {t n : Nat} {A : Nat → Int32} {k f w : Int32} (hT : TwA S t) (hn8 : n ≤ 8) (hA : eqOn (26 + 5 * n) (tv mi t) A) (hn : A 1 = nI n) : Ok 1 0 0 fX5_addAttic X [rf X t, .int k, .int f, .int w] S mi (fun r S' m => S' = S ∧ ((n = 8 ∧ r = some (.int (-1000000003)) ∧ m = mi) ∨ (n < 8 ∧ r = some (.int (nI n)) ∧ eqOn (26 + 5 * (n + 1)) (tv m t) (comesF A n k f w) ∧ Frt t mi m))) := by
  refine Ok.go [some (rf X t), some (.int k), some (.int f), some (.int w)] (by decide) (by simp [Value.category]) (Nat.le_of_ble_eq_true rfl) rfl ?_
  obtain ⟨k_t, ⟨r_t_home, k_t_home⟩, ⟨r_t_price, k_t_price⟩, ⟨r_t_attics, k_t_attics⟩, ⟨r_t_texts, k_t_texts⟩, ⟨r_t_counting, k_t_counting⟩, ⟨r_t_names, k_t_names⟩, ⟨r_t_pile, k_t_pile⟩, ⟨r_t_views, k_t_views⟩, a_t⟩ := id hT
  have ec : mi t 3 = nI n := by rw [show (3 : Nat) = tvF 1 from rfl, tv_0 hA (by decide) (by omega), hn]
  refine mw_aload_n dX5_addAttic_0 rfl ?_
  refine mw_geti dX5_addAttic_1 fl_X5_59 rfl (by assumption) ?_
  refine mw_bipush (v := 8) dX5_addAttic_4 (by decide) ?_
  rw [ec]
  refine mw_icmp_lt (tgt := 12) dX5_addAttic_6 (by decide) (fun h6 => ?_) (fun h6 => ?_)
  · skip
    have hlt : n < 8 := (nI_ltI (by omega) (by decide)).mp h6
    have hka := (a_t n hlt).2
    refine mw_aload_n dX5_addAttic_12 rfl ?_
    refine mw_getr dX5_addAttic_13 fl_X5_20 rfl (by assumption) (by assumption) ?_
    refine mw_aload_n dX5_addAttic_16 rfl ?_
    refine mw_geti dX5_addAttic_17 fl_X5_59 rfl (by assumption) ?_
    rw [ec]
    refine mw_aldK (k := n) dX5_addAttic_20 (by assumption) (by decide) (rfl) (hlt) (by decide) ((a_t n hlt).1) ?_
    refine mw_iload_n dX5_addAttic_21 rfl ?_
    refine mw_iload_n dX5_addAttic_22 rfl ?_
    refine mw_iload_n dX5_addAttic_23 rfl ?_
    refine mw_cVV (g := fX0_renew) dX5_addAttic_24 ml_X5_85 mfX0_renew (ok_X0_renew hka) (hka) rfl rfl (Nat.le_of_ble_eq_true rfl) ⟨by decide, by decide⟩ ⟨by decide, by decide⟩ ?_
    refine mw_aload_n dX5_addAttic_27 rfl ?_
    refine mw_dup dX5_addAttic_28 rfl ?_
    refine mw_geti dX5_addAttic_29 fl_X5_59 rfl (by assumption) ?_
    refine mw_iconst (v := 1) dX5_addAttic_32 (by decide) ?_
    have ec5 : (m_up (m_up (m_up (m_up (m_up mi (t + 9 + n) 0 k) (t + 9 + n) 1 f) (t + 9 + n) 2 w) (t + 9 + n) 3 0) (t + 9 + n) 4 0) t 3 = nI n := by simp only [m_up_ne (show t ≠ t + 9 + n by omega)]; exact ec
    rw [ec5]
    refine mw_iadd dX5_addAttic_33 ?_
    rw [nI_1]
    refine mw_puti dX5_addAttic_34 fl_X5_59 ft_5_3 rfl (rfl) rfl (by assumption) ?_
    refine mw_aload_n dX5_addAttic_37 rfl ?_
    refine mw_geti dX5_addAttic_38 fl_X5_59 rfl (by assumption) ?_
    rw [m_up_at]
    refine mw_iconst (v := 1) dX5_addAttic_41 (by decide) ?_
    refine mw_isub dX5_addAttic_42 ?_
    rw [nI_pred]
    exact mw_iret dX5_addAttic_43 rfl (by decide) (by decide) (⟨rfl, Or.inr ⟨hlt, rfl, tv_up0 (j := 1) (by decide) (tv_new hlt hA), ((((((Frt.rf t mi).upA hlt).upA hlt).upA hlt).upA hlt).upA hlt).up0⟩⟩)
  · skip
    refine mw_ldc dX5_addAttic_9 cn_X5_84 ?_
    exact mw_iret dX5_addAttic_11 rfl (by decide) (by decide) (⟨rfl, Or.inl ⟨by have : ¬ n < 8 := fun q => h6 (nI_lt (b := 8) q (by decide)); omega, rfl, rfl⟩⟩)
theorem dX5_drawAttic_0 : decode fX5_drawAttic.2.1 0 = .ok (.aload_n 0, 1) := by decide +kernel
theorem dX5_drawAttic_1 : decode fX5_drawAttic.2.1 1 = .ok (.invokevirtual 89, 3) := by decide +kernel
theorem dX5_drawAttic_4 : decode fX5_drawAttic.2.1 4 = .ok (.bipush 6, 2) := by decide +kernel
theorem dX5_drawAttic_6 : decode fX5_drawAttic.2.1 6 = .ok (.irem, 1) := by decide +kernel
theorem dX5_drawAttic_7 : decode fX5_drawAttic.2.1 7 = .ok (.istore_n 1, 1) := by decide +kernel
theorem dX5_drawAttic_8 : decode fX5_drawAttic.2.1 8 = .ok (.aload_n 0, 1) := by decide +kernel
theorem dX5_drawAttic_9 : decode fX5_drawAttic.2.1 9 = .ok (.invokevirtual 89, 3) := by decide +kernel
theorem dX5_drawAttic_12 : decode fX5_drawAttic.2.1 12 = .ok (.bipush 24, 2) := by decide +kernel
theorem dX5_drawAttic_14 : decode fX5_drawAttic.2.1 14 = .ok (.irem, 1) := by decide +kernel
theorem dX5_drawAttic_15 : decode fX5_drawAttic.2.1 15 = .ok (.istore_n 2, 1) := by decide +kernel
theorem dX5_drawAttic_16 : decode fX5_drawAttic.2.1 16 = .ok (.aload_n 0, 1) := by decide +kernel
theorem dX5_drawAttic_17 : decode fX5_drawAttic.2.1 17 = .ok (.invokevirtual 89, 3) := by decide +kernel
theorem dX5_drawAttic_20 : decode fX5_drawAttic.2.1 20 = .ok (.bipush 12, 2) := by decide +kernel
theorem dX5_drawAttic_22 : decode fX5_drawAttic.2.1 22 = .ok (.irem, 1) := by decide +kernel
theorem dX5_drawAttic_23 : decode fX5_drawAttic.2.1 23 = .ok (.iconst 1, 1) := by decide +kernel
theorem dX5_drawAttic_24 : decode fX5_drawAttic.2.1 24 = .ok (.iadd, 1) := by decide +kernel
theorem dX5_drawAttic_25 : decode fX5_drawAttic.2.1 25 = .ok (.istore_n 3, 1) := by decide +kernel
theorem dX5_drawAttic_26 : decode fX5_drawAttic.2.1 26 = .ok (.aload_n 0, 1) := by decide +kernel
theorem dX5_drawAttic_27 : decode fX5_drawAttic.2.1 27 = .ok (.iload_n 1, 1) := by decide +kernel
theorem dX5_drawAttic_28 : decode fX5_drawAttic.2.1 28 = .ok (.iload_n 2, 1) := by decide +kernel
theorem dX5_drawAttic_29 : decode fX5_drawAttic.2.1 29 = .ok (.iload_n 3, 1) := by decide +kernel
theorem dX5_drawAttic_30 : decode fX5_drawAttic.2.1 30 = .ok (.invokevirtual 93, 3) := by decide +kernel
theorem dX5_drawAttic_33 : decode fX5_drawAttic.2.1 33 = .ok (.pop, 1) := by decide +kernel
theorem dX5_drawAttic_34 : decode fX5_drawAttic.2.1 34 = .ok (.return_, 1) := by decide +kernel
def drawF (A : Nat → Int32) (n : Nat) : Nat → Int32 := comesF (upd A 0 (nz1 (nz1 (nz1 (A 0))))) n (jr (jus (nz1 (A 0)) 8) 6) (jr (jus (nz1 (nz1 (A 0))) 8) 24) (jr (jus (nz1 (nz1 (nz1 (A 0)))) 8) 12 + 1)
set_option maxRecDepth 100000 in
set_option maxHeartbeats 4000000 in
theorem ok_X5_drawAttic {X : Xb} {S : Sg} {mi : Mem} {t n : Nat} {A : Nat → Int32} (hT : TwA S t) (hn8 : n < 8) (hA : eqOn (26 + 5 * n) (tv mi t) A) (hn : A 1 = nI n) : Ok 2 0 0 fX5_drawAttic X [rf X t] S mi (fun r S' m => r = none ∧ S' = S ∧ eqOn (26 + 5 * (n + 1)) (tv m t) (drawF A n) ∧ Frt t mi m) := by
  refine Ok.go [some (rf X t), none, none, none] (by decide) (by simp [Value.category]) (Nat.le_of_ble_eq_true rfl) rfl ?_
  obtain ⟨k_t, ⟨r_t_home, k_t_home⟩, ⟨r_t_price, k_t_price⟩, ⟨r_t_attics, k_t_attics⟩, ⟨r_t_texts, k_t_texts⟩, ⟨r_t_counting, k_t_counting⟩, ⟨r_t_names, k_t_names⟩, ⟨r_t_pile, k_t_pile⟩, ⟨r_t_views, k_t_views⟩, a_t⟩ := id hT
  have e0 : mi t 11 = A 0 := tv_0 (j := 0) hA (by decide) (by omega)
  refine mw_aload_n dX5_drawAttic_0 rfl ?_
  refine mw_cVI (g := fX5_draw) dX5_drawAttic_1 ml_X5_89 mfX5_draw (ok_X5_draw hT) (by assumption) rfl rfl (Nat.le_of_ble_eq_true rfl) ⟨by decide, by decide⟩ ⟨by decide, by decide⟩ ?_
  refine mw_bipush (v := 6) dX5_drawAttic_4 (by decide) ?_
  refine mw_irem dX5_drawAttic_6 (by decide) ?_
  refine mw_istN 1 dX5_drawAttic_7 rfl (by decide) ?_
  refine mw_aload_n dX5_drawAttic_8 rfl ?_
  refine mw_cVI (g := fX5_draw) dX5_drawAttic_9 ml_X5_89 mfX5_draw (ok_X5_draw hT) (by assumption) rfl rfl (Nat.le_of_ble_eq_true rfl) ⟨by decide, by decide⟩ ⟨by decide, by decide⟩ ?_
  refine mw_bipush (v := 24) dX5_drawAttic_12 (by decide) ?_
  refine mw_irem dX5_drawAttic_14 (by decide) ?_
  refine mw_istN 2 dX5_drawAttic_15 rfl (by decide) ?_
  refine mw_aload_n dX5_drawAttic_16 rfl ?_
  refine mw_cVI (g := fX5_draw) dX5_drawAttic_17 ml_X5_89 mfX5_draw (ok_X5_draw hT) (by assumption) rfl rfl (Nat.le_of_ble_eq_true rfl) ⟨by decide, by decide⟩ ⟨by decide, by decide⟩ ?_
  rw [m_up_at, m_up_up, m_up_at, m_up_up, e0]
  refine mw_bipush (v := 12) dX5_drawAttic_20 (by decide) ?_
  refine mw_irem dX5_drawAttic_22 (by decide) ?_
  refine mw_iconst (v := 1) dX5_drawAttic_23 (by decide) ?_
  refine mw_iadd dX5_drawAttic_24 ?_
  refine mw_istN 3 dX5_drawAttic_25 rfl (by decide) ?_
  refine mw_aload_n dX5_drawAttic_26 rfl ?_
  refine mw_iload_n dX5_drawAttic_27 rfl ?_
  refine mw_iload_n dX5_drawAttic_28 rfl ?_
  refine mw_iload_n dX5_drawAttic_29 rfl ?_
  refine mw_callV (g := fX5_addAttic) dX5_drawAttic_30 ml_X5_93 mfX5_addAttic (ok_X5_addAttic (n := n) (A := upd A 0 (nz1 (nz1 (nz1 (A 0))))) hT (by omega) (tv_up0 (j := 0) (by decide) hA) (by simp [upd, hn])) (by assumption) rfl rfl (Nat.le_of_ble_eq_true rfl) ⟨by decide, by decide⟩ ⟨by decide, by decide⟩ (fun r S2 mi2 hp => ?_)
  obtain ⟨e1, h | ⟨hlt, rfl, h2, h3⟩⟩ := hp
  · omega
  rw [e1]
  refine mw_pop dX5_drawAttic_33 rfl ?_
  exact mw_vret dX5_drawAttic_34 rfl (by decide) (by decide) (⟨rfl, rfl, h2, ((Frt.rf t mi).up0).tr h3⟩)
/-- a choice made: where to face (0), to build (1), what to become (2) -/
def chF (c : Int32) (a : Nat) (v : Int32) (B : Nat → Int32) : Nat → Int32 := if c = 1 then upd B 9 (B 9 ||| (1 <<< (v &&& 31))) else if c = 0 then upd B (26 + 5 * a + 1) v else upd B (26 + 5 * a) v
def chB (c v : Int32) (B : Nat → Int32) : Bool := !decide (c = 1) || decide (B 9 >>> (v &&& 31) &&& 1 = 0)
theorem dX5_choose_0 : decode fX5_choose.2.1 0 = .ok (.iload_n 1, 1) := by decide +kernel
theorem dX5_choose_1 : decode fX5_choose.2.1 1 = .ok (.iconst 1, 1) := by decide +kernel
theorem dX5_choose_2 : decode fX5_choose.2.1 2 = .ok (.if_icmp .ne 36, 3) := by decide +kernel
theorem dX5_choose_5 : decode fX5_choose.2.1 5 = .ok (.aload_n 0, 1) := by decide +kernel
theorem dX5_choose_6 : decode fX5_choose.2.1 6 = .ok (.getfield 66, 3) := by decide +kernel
theorem dX5_choose_9 : decode fX5_choose.2.1 9 = .ok (.iload_n 3, 1) := by decide +kernel
theorem dX5_choose_10 : decode fX5_choose.2.1 10 = .ok (.ishr, 1) := by decide +kernel
theorem dX5_choose_11 : decode fX5_choose.2.1 11 = .ok (.iconst 1, 1) := by decide +kernel
theorem dX5_choose_12 : decode fX5_choose.2.1 12 = .ok (.iand, 1) := by decide +kernel
theorem dX5_choose_13 : decode fX5_choose.2.1 13 = .ok (.ifCond .ne 7, 3) := by decide +kernel
theorem dX5_choose_16 : decode fX5_choose.2.1 16 = .ok (.iconst 1, 1) := by decide +kernel
theorem dX5_choose_17 : decode fX5_choose.2.1 17 = .ok (.goto 4, 3) := by decide +kernel
theorem dX5_choose_20 : decode fX5_choose.2.1 20 = .ok (.iconst 0, 1) := by decide +kernel
theorem dX5_choose_21 : decode fX5_choose.2.1 21 = .ok (.istore 4, 2) := by decide +kernel
theorem dX5_choose_23 : decode fX5_choose.2.1 23 = .ok (.aload_n 0, 1) := by decide +kernel
theorem dX5_choose_24 : decode fX5_choose.2.1 24 = .ok (.dup, 1) := by decide +kernel
theorem dX5_choose_25 : decode fX5_choose.2.1 25 = .ok (.getfield 66, 3) := by decide +kernel
theorem dX5_choose_28 : decode fX5_choose.2.1 28 = .ok (.iconst 1, 1) := by decide +kernel
theorem dX5_choose_29 : decode fX5_choose.2.1 29 = .ok (.iload_n 3, 1) := by decide +kernel
theorem dX5_choose_30 : decode fX5_choose.2.1 30 = .ok (.ishl, 1) := by decide +kernel
theorem dX5_choose_31 : decode fX5_choose.2.1 31 = .ok (.ior, 1) := by decide +kernel
theorem dX5_choose_32 : decode fX5_choose.2.1 32 = .ok (.putfield 66, 3) := by decide +kernel
theorem dX5_choose_35 : decode fX5_choose.2.1 35 = .ok (.iload 4, 2) := by decide +kernel
theorem dX5_choose_37 : decode fX5_choose.2.1 37 = .ok (.ireturn, 1) := by decide +kernel
theorem dX5_choose_38 : decode fX5_choose.2.1 38 = .ok (.iload_n 2, 1) := by decide +kernel
theorem dX5_choose_39 : decode fX5_choose.2.1 39 = .ok (.iconst 0, 1) := by decide +kernel
theorem dX5_choose_40 : decode fX5_choose.2.1 40 = .ok (.aload_n 0, 1) := by decide +kernel
theorem dX5_choose_41 : decode fX5_choose.2.1 41 = .ok (.getfield 59, 3) := by decide +kernel
theorem dX5_choose_44 : decode fX5_choose.2.1 44 = .ok (.iconst 1, 1) := by decide +kernel
theorem dX5_choose_45 : decode fX5_choose.2.1 45 = .ok (.isub, 1) := by decide +kernel
theorem dX5_choose_46 : decode fX5_choose.2.1 46 = .ok (.invokestatic 113, 3) := by decide +kernel
theorem dX5_choose_49 : decode fX5_choose.2.1 49 = .ok (.ifCond .ne 5, 3) := by decide +kernel
theorem dX5_choose_52 : decode fX5_choose.2.1 52 = .ok (.iconst 0, 1) := by decide +kernel
theorem dX5_choose_53 : decode fX5_choose.2.1 53 = .ok (.ireturn, 1) := by decide +kernel
theorem dX5_choose_54 : decode fX5_choose.2.1 54 = .ok (.iload_n 1, 1) := by decide +kernel
theorem dX5_choose_55 : decode fX5_choose.2.1 55 = .ok (.ifCond .ne 16, 3) := by decide +kernel
theorem dX5_choose_58 : decode fX5_choose.2.1 58 = .ok (.aload_n 0, 1) := by decide +kernel
theorem dX5_choose_59 : decode fX5_choose.2.1 59 = .ok (.getfield 20, 3) := by decide +kernel
theorem dX5_choose_62 : decode fX5_choose.2.1 62 = .ok (.iload_n 2, 1) := by decide +kernel
theorem dX5_choose_63 : decode fX5_choose.2.1 63 = .ok (.aaload, 1) := by decide +kernel
theorem dX5_choose_64 : decode fX5_choose.2.1 64 = .ok (.iload_n 3, 1) := by decide +kernel
theorem dX5_choose_65 : decode fX5_choose.2.1 65 = .ok (.putfield 117, 3) := by decide +kernel
theorem dX5_choose_68 : decode fX5_choose.2.1 68 = .ok (.goto 13, 3) := by decide +kernel
theorem dX5_choose_71 : decode fX5_choose.2.1 71 = .ok (.aload_n 0, 1) := by decide +kernel
theorem dX5_choose_72 : decode fX5_choose.2.1 72 = .ok (.getfield 20, 3) := by decide +kernel
theorem dX5_choose_75 : decode fX5_choose.2.1 75 = .ok (.iload_n 2, 1) := by decide +kernel
theorem dX5_choose_76 : decode fX5_choose.2.1 76 = .ok (.aaload, 1) := by decide +kernel
theorem dX5_choose_77 : decode fX5_choose.2.1 77 = .ok (.iload_n 3, 1) := by decide +kernel
theorem dX5_choose_78 : decode fX5_choose.2.1 78 = .ok (.putfield 120, 3) := by decide +kernel
theorem dX5_choose_81 : decode fX5_choose.2.1 81 = .ok (.iconst 1, 1) := by decide +kernel
theorem dX5_choose_82 : decode fX5_choose.2.1 82 = .ok (.ireturn, 1) := by decide +kernel
set_option maxRecDepth 100000 in
set_option maxHeartbeats 4000000 in
theorem ok_X5_choose {X : Xb} {S : Sg} {mi : Mem} {t n a : Nat} {A : Nat → Int32} {c v : Int32} (hT : TwA S t) (hn8 : n ≤ 8) (hA : eqOn (26 + 5 * n) (tv mi t) A) (hn : A 1 = nI n) (hc : c = 1 ∨ a < n) : Ok 1 0 0 fX5_choose X [rf X t, .int c, .int (nI a), .int v] S mi (fun r S' m => r = some (.int (b2i (chB c v A = true))) ∧ S' = S ∧ eqOn (26 + 5 * n) (tv m t) (chF c a v A) ∧ Frt t mi m) := by
  refine Ok.go [some (rf X t), some (.int c), some (.int (nI a)), some (.int v), none] (by decide) (by simp [Value.category]) (Nat.le_of_ble_eq_true rfl) rfl ?_
  obtain ⟨k_t, ⟨r_t_home, k_t_home⟩, ⟨r_t_price, k_t_price⟩, ⟨r_t_attics, k_t_attics⟩, ⟨r_t_texts, k_t_texts⟩, ⟨r_t_counting, k_t_counting⟩, ⟨r_t_names, k_t_names⟩, ⟨r_t_pile, k_t_pile⟩, ⟨r_t_views, k_t_views⟩, a_t⟩ := id hT
  have ec : mi t 3 = nI n := by rw [show (3 : Nat) = tvF 1 from rfl, tv_0 hA (by decide) (by omega), hn]
  have e4 : mi t 4 = A 9 := tv_0 (j := 9) hA (by decide) (by omega)
  have F0 := Frt.rf t mi
  refine mw_iload_n dX5_choose_0 rfl ?_
  refine mw_iconst (v := 1) dX5_choose_1 (by decide) ?_
  refine mw_icmp_ne (tgt := 38) dX5_choose_2 (by decide) (fun h2 => ?_) (fun h2 => ?_)
  · skip
    have han : a < n := hc.resolve_left h2
    have hka := (a_t a (by omega)).2
    refine mw_iload_n dX5_choose_38 rfl ?_
    refine mw_iconst (v := 0) dX5_choose_39 (by decide) ?_
    refine mw_aload_n dX5_choose_40 rfl ?_
    refine mw_geti dX5_choose_41 fl_X5_59 rfl (by assumption) ?_
    rw [ec]
    refine mw_iconst (v := 1) dX5_choose_44 (by decide) ?_
    refine mw_isub dX5_choose_45 ?_
    refine mw_cSNI (g := fX6_within) dX5_choose_46 nl_X5_113 mfX6_within (ok_X6_within) rfl rfl (Nat.le_of_ble_eq_true rfl) ⟨by decide, by decide⟩ ⟨by decide, by decide⟩ ?_
    refine mw_if_neB (tgt := 54) dX5_choose_49 (by decide) (fun h49 => ?_) (fun h49 => ?_)
    · skip
      refine mw_iload_n dX5_choose_54 rfl ?_
      refine mw_if_ne (tgt := 71) dX5_choose_55 (by decide) (fun h55 => ?_) (fun h55 => ?_)
      · skip
        refine mw_aload_n dX5_choose_71 rfl ?_
        refine mw_getr dX5_choose_72 fl_X5_20 rfl (by assumption) (by assumption) ?_
        refine mw_iload_n dX5_choose_75 rfl ?_
        refine mw_aldK (k := a) dX5_choose_76 (by assumption) (by decide) (rfl) (by omega) (by decide) ((a_t a (by omega)).1) ?_
        refine mw_iload_n dX5_choose_77 rfl ?_
        refine mw_puti dX5_choose_78 fl_X5_120 ft_0_0 rfl (rfl) rfl (by assumption) ?_
        refine mw_iconst (v := 1) dX5_choose_81 (by decide) ?_
        exact mw_bret dX5_choose_82 rfl (by first | exact Or.inl rfl | exact Or.inr rfl | exact b2i_01) (by decide) (by decide) (⟨by simp [chB, b2i, h2], rfl, by first | (rw [chF, if_neg h2, if_pos h55]; exact tv_upA (by omega) (by decide) hA) | (rw [chF, if_neg h2, if_neg h55]; exact tv_upA (f := 0) (by omega) (by decide) hA), F0.upA (by omega)⟩)
      · skip
        refine mw_aload_n dX5_choose_58 rfl ?_
        refine mw_getr dX5_choose_59 fl_X5_20 rfl (by assumption) (by assumption) ?_
        refine mw_iload_n dX5_choose_62 rfl ?_
        refine mw_aldK (k := a) dX5_choose_63 (by assumption) (by decide) (rfl) (by omega) (by decide) ((a_t a (by omega)).1) ?_
        refine mw_iload_n dX5_choose_64 rfl ?_
        refine mw_puti dX5_choose_65 fl_X5_117 ft_0_1 rfl (rfl) rfl (by assumption) ?_
        refine mw_goto (tgt := 81) dX5_choose_68 (by decide) ?_
        refine mw_iconst (v := 1) dX5_choose_81 (by decide) ?_
        exact mw_bret dX5_choose_82 rfl (by first | exact Or.inl rfl | exact Or.inr rfl | exact b2i_01) (by decide) (by decide) (⟨by simp [chB, b2i, h2], rfl, by first | (rw [chF, if_neg h2, if_pos h55]; exact tv_upA (by omega) (by decide) hA) | (rw [chF, if_neg h2, if_neg h55]; exact tv_upA (f := 0) (by omega) (by decide) hA), F0.upA (by omega)⟩)
    · skip
      refine mw_iconst (v := 0) dX5_choose_52 (by decide) ?_
      exact mw_bret dX5_choose_53 rfl (by first | exact Or.inl rfl | exact Or.inr rfl | exact b2i_01) (by decide) (by decide) ((h49 ⟨nI_pos' (by omega), by rw [show nI n - 1 = nI (n - 1) from nI_sub1 (by omega)]; exact nI_le (by omega) (by omega)⟩).elim)
  · skip
    refine mw_aload_n dX5_choose_5 rfl ?_
    refine mw_geti dX5_choose_6 fl_X5_66 rfl (by assumption) ?_
    rw [e4]
    refine mw_iload_n dX5_choose_9 rfl ?_
    refine mw_ishr dX5_choose_10 ?_
    refine mw_iconst (v := 1) dX5_choose_11 (by decide) ?_
    refine mw_iand dX5_choose_12 ?_
    refine mw_if_ne (tgt := 20) dX5_choose_13 (by decide) (fun h13 => ?_) (fun h13 => ?_)
    · skip
      refine mw_iconst (v := 0) dX5_choose_20 (by decide) ?_
      refine mw_istore dX5_choose_21 (by decide) ?_
      refine mw_aload_n dX5_choose_23 rfl ?_
      refine mw_dup dX5_choose_24 rfl ?_
      refine mw_geti dX5_choose_25 fl_X5_66 rfl (by assumption) ?_
      rw [e4]
      refine mw_iconst (v := 1) dX5_choose_28 (by decide) ?_
      refine mw_iload_n dX5_choose_29 rfl ?_
      refine mw_ishl dX5_choose_30 ?_
      refine mw_ior dX5_choose_31 ?_
      refine mw_puti dX5_choose_32 fl_X5_66 ft_5_4 rfl (rfl) rfl (by assumption) ?_
      refine mw_iload dX5_choose_35 rfl ?_
      exact mw_bret dX5_choose_37 rfl (by first | exact Or.inl rfl | exact Or.inr rfl | exact b2i_01) (by decide) (by decide) (⟨by simp_all [chB, b2i], rfl, by rw [chF, if_pos h2]; exact tv_up0 (j := 9) (by decide) hA, F0.up0⟩)
    · skip
      refine mw_iconst (v := 1) dX5_choose_16 (by decide) ?_
      refine mw_goto (tgt := 21) dX5_choose_17 (by decide) ?_
      refine mw_istore dX5_choose_21 (by decide) ?_
      refine mw_aload_n dX5_choose_23 rfl ?_
      refine mw_dup dX5_choose_24 rfl ?_
      refine mw_geti dX5_choose_25 fl_X5_66 rfl (by assumption) ?_
      rw [e4]
      refine mw_iconst (v := 1) dX5_choose_28 (by decide) ?_
      refine mw_iload_n dX5_choose_29 rfl ?_
      refine mw_ishl dX5_choose_30 ?_
      refine mw_ior dX5_choose_31 ?_
      refine mw_puti dX5_choose_32 fl_X5_66 ft_5_4 rfl (rfl) rfl (by assumption) ?_
      refine mw_iload dX5_choose_35 rfl ?_
      exact mw_bret dX5_choose_37 rfl (by first | exact Or.inl rfl | exact Or.inr rfl | exact b2i_01) (by decide) (by decide) (⟨by simp_all [chB, b2i], rfl, by rw [chF, if_pos h2]; exact tv_up0 (j := 9) (by decide) hA, F0.up0⟩)
end
section
/-! Town: sums of rent, fee and fine -/
theorem gRun_wf2 {s : Nat → Int32} {n : Nat} (h : WfC s n) (nm nm' p p' : Nat → Int32) (hnm : ∀ k, k < n → ¬ s k < -4 → s k < 0 → nm (-1 - s k).toNatClampNeg = nm' (-1 - s k).toNatClampNeg) : ∀ k, k ≤ n → (gRun nm s p k).1 = gDep s k ∧ (gRun nm' s p' k).1 = gDep s k ∧ (∀ j, j < gDep s k → (gRun nm s p k).2 j = (gRun nm' s p' k).2 j) ∧ (0 < k → 0 < gDep s k)
  | 0, _ => ⟨rfl, rfl, fun j hj => absurd hj (Nat.not_lt_zero j), fun q => absurd q (Nat.lt_irrefl 0)⟩
  | k + 1, hk => by
    obtain ⟨i1, i2, i3, i4⟩ := gRun_wf2 h nm nm' p p' hnm k (by omega)
    have hw := h.2.2 k (by omega)
    have hd := gDep_le s k
    have hn := h.2.1
    by_cases c1 : s k < -4
    · by_cases c2 : s k = -33
      · have g1 := (hw c1).1 c2
        simp only [gRun, gStep, gDep, c2, show (-33 : Int32) < -4 from by decide, if_true, i1, i2, show ¬ gDep s k < 1 by omega, if_false]
        refine ⟨trivial, trivial, fun j hj => ?_, fun _ => by omega⟩
        simp only [upd, i3 (gDep s k - 1) (by omega)]
        by_cases hj2 : j = gDep s k - 1
        · simp [hj2]
        · simp [hj2, i3 j hj]
      · have g1 := (hw c1).2 c2
        simp only [gRun, gStep, gDep, c1, c2, if_true, i1, i2, show ¬ gDep s k < 2 by omega, if_false]
        refine ⟨trivial, trivial, fun j hj => ?_, fun _ => by omega⟩
        simp only [upd, i3 (gDep s k - 1) (by omega), i3 (gDep s k - 2) (by omega)]
        by_cases hj2 : j = gDep s k - 2
        · simp [hj2]
        · simp [hj2, i3 j (by omega)]
    · simp only [gRun, gStep, gDep, c1, i1, i2, show gDep s k < 96 by omega, if_true, if_false]
      refine ⟨trivial, trivial, fun j hj => ?_, fun _ => by omega⟩
      simp only [upd]
      by_cases hj2 : j = gDep s k
      · by_cases c3 : s k < 0
        · simp [hj2, c3, hnm k (by omega) c1 c3]
        · simp [hj2, c3]
      · simp [hj2, i3 j (by omega)]
/-- a law of two names -/
def Two (s : Nat → Int32) (n : Nat) : Prop := ∀ k, k < n → ¬ s k < -4 → s k < 0 → (-1 - s k).toNatClampNeg < 2
theorem gRun_law2 {s : Nat → Int32} {n : Nat} (h : WfC s n) (h2 : Two s n) {nm p : Nat → Int32} {a b : Int32} (e0 : nm 0 = a) (e1 : nm 1 = b) : (gRun nm s p n).2 0 = lawF s n a b 0 0 := by
  obtain ⟨-, -, i3, i4⟩ := gRun_wf2 h nm (c4 a b 0 0) p (fun _ => 0) (fun k hk c1 c2 => by
    have := h2 k hk c1 c2
    generalize (-1 - s k).toNatClampNeg = j at this
    have : j = 0 ∨ j = 1 := by omega
    rcases this with rfl | rfl <;> simp [c4, *]) n (Nat.le_refl n)
  exact i3 0 (i4 h.1)
def TxOk2 (S : Sg) (mi : Mem) (t j : Nat) : Prop := TxOk S mi t j ∧ ∀ p, txOf S mi t j = some p → Two (mi (p + 1)) (S.2.1 (p + 1)).2
def law2F (lw : LawT) (x a b : Int32) : Int32 := match lw with
  | none => x
  | some f => f a b 0 0
theorem dX5_fineGives_0 : decode fX5_fineGives.2.1 0 = .ok (.aload_n 0, 1) := by decide +kernel
theorem dX5_fineGives_1 : decode fX5_fineGives.2.1 1 = .ok (.iconst 2, 1) := by decide +kernel
theorem dX5_fineGives_2 : decode fX5_fineGives.2.1 2 = .ok (.invokevirtual 161, 3) := by decide +kernel
theorem dX5_fineGives_5 : decode fX5_fineGives.2.1 5 = .ok (.astore_n 2, 1) := by decide +kernel
theorem dX5_fineGives_6 : decode fX5_fineGives.2.1 6 = .ok (.aload_n 2, 1) := by decide +kernel
theorem dX5_fineGives_7 : decode fX5_fineGives.2.1 7 = .ok (.ifnonnull 8, 3) := by decide +kernel
theorem dX5_fineGives_10 : decode fX5_fineGives.2.1 10 = .ok (.aload_n 1, 1) := by decide +kernel
theorem dX5_fineGives_11 : decode fX5_fineGives.2.1 11 = .ok (.getfield 175, 3) := by decide +kernel
theorem dX5_fineGives_14 : decode fX5_fineGives.2.1 14 = .ok (.ireturn, 1) := by decide +kernel
theorem dX5_fineGives_15 : decode fX5_fineGives.2.1 15 = .ok (.aload_n 0, 1) := by decide +kernel
theorem dX5_fineGives_16 : decode fX5_fineGives.2.1 16 = .ok (.getfield 43, 3) := by decide +kernel
theorem dX5_fineGives_19 : decode fX5_fineGives.2.1 19 = .ok (.iconst 0, 1) := by decide +kernel
theorem dX5_fineGives_20 : decode fX5_fineGives.2.1 20 = .ok (.aload_n 1, 1) := by decide +kernel
theorem dX5_fineGives_21 : decode fX5_fineGives.2.1 21 = .ok (.getfield 178, 3) := by decide +kernel
theorem dX5_fineGives_24 : decode fX5_fineGives.2.1 24 = .ok (.iastore, 1) := by decide +kernel
theorem dX5_fineGives_25 : decode fX5_fineGives.2.1 25 = .ok (.aload_n 0, 1) := by decide +kernel
theorem dX5_fineGives_26 : decode fX5_fineGives.2.1 26 = .ok (.getfield 43, 3) := by decide +kernel
theorem dX5_fineGives_29 : decode fX5_fineGives.2.1 29 = .ok (.iconst 1, 1) := by decide +kernel
theorem dX5_fineGives_30 : decode fX5_fineGives.2.1 30 = .ok (.aload_n 1, 1) := by decide +kernel
theorem dX5_fineGives_31 : decode fX5_fineGives.2.1 31 = .ok (.getfield 175, 3) := by decide +kernel
theorem dX5_fineGives_34 : decode fX5_fineGives.2.1 34 = .ok (.iastore, 1) := by decide +kernel
theorem dX5_fineGives_35 : decode fX5_fineGives.2.1 35 = .ok (.aload_n 2, 1) := by decide +kernel
theorem dX5_fineGives_36 : decode fX5_fineGives.2.1 36 = .ok (.aload_n 0, 1) := by decide +kernel
theorem dX5_fineGives_37 : decode fX5_fineGives.2.1 37 = .ok (.getfield 43, 3) := by decide +kernel
theorem dX5_fineGives_40 : decode fX5_fineGives.2.1 40 = .ok (.aload_n 0, 1) := by decide +kernel
theorem dX5_fineGives_41 : decode fX5_fineGives.2.1 41 = .ok (.getfield 46, 3) := by decide +kernel
theorem dX5_fineGives_44 : decode fX5_fineGives.2.1 44 = .ok (.invokevirtual 165, 3) := by decide +kernel
theorem dX5_fineGives_47 : decode fX5_fineGives.2.1 47 = .ok (.ireturn, 1) := by decide +kernel
set_option maxRecDepth 100000 in
set_option maxHeartbeats 4000000 in
theorem ok_X5_fineGives {X : Xb} {S : Sg} {mi : Mem} {t q : Nat} (hT : TwA S t) (hq : Kd S q 0 0) (hx : TxOk2 S mi t 2) : Ok 2 0 0 fX5_fineGives X [rf X t, rf X q] S mi (fun r S' m => r = some (.int (law2F (lwC S mi t 2) (mi q 4) (mi q 3) (mi q 4))) ∧ S' = S ∧ Scr t mi m) := by
  refine Ok.go [some (rf X t), some (rf X q), none] (by decide) (by simp [Value.category]) (Nat.le_of_ble_eq_true rfl) rfl ?_
  obtain ⟨k_t, ⟨r_t_home, k_t_home⟩, ⟨r_t_price, k_t_price⟩, ⟨r_t_attics, k_t_attics⟩, ⟨r_t_texts, k_t_texts⟩, ⟨r_t_counting, k_t_counting⟩, ⟨r_t_names, k_t_names⟩, ⟨r_t_pile, k_t_pile⟩, ⟨r_t_views, k_t_views⟩, a_t⟩ := id hT
  refine mw_aload_n dX5_fineGives_0 rfl ?_
  refine mw_iconst (v := 2) dX5_fineGives_1 (by decide) ?_
  refine mw_callV (g := fX5_textFor) dX5_fineGives_2 ml_X5_161 mfX5_textFor (ok_X5_textFor hT (j := 2) (by decide)) (by assumption) rfl rfl (Nat.le_of_ble_eq_true rfl) ⟨by decide, by decide⟩ ⟨by decide, by decide⟩ (fun r S2 mi2 hp => ?_)
  obtain ⟨rfl, e1, e2⟩ := hp
  rw [e1, e2]
  cases htx : txOf S mi t 2 with
  | none =>
    refine mw_astore_nN dX5_fineGives_5 (by decide) ?_
    refine mw_aload_nN dX5_fineGives_6 rfl ?_
    refine mw_ifnonnullN dX5_fineGives_7 ?_
    refine mw_aload_n dX5_fineGives_10 rfl ?_
    refine mw_geti dX5_fineGives_11 fl_X5_175 rfl hq ?_
    exact mw_iret dX5_fineGives_14 rfl (by decide) (by decide) ⟨by simp only [lwC, htx, Option.map_none, law2F], rfl, Scr.rf _ _⟩
  | some p =>
  obtain ⟨len, ⟨x1, x2, x3, x4⟩, x5⟩ := hx.1 p htx
  have x6 := hx.2 p htx
  rw [x3.2] at x6
  have np : p ≠ t + 6 := Kd_ne x1 k_t_names (by decide)
  have np5 : p ≠ t + 5 := Kd_ne x1 k_t_counting (by decide)
  have nq : q ≠ t + 6 := Kd_ne hq k_t_names (by decide)
  have np1 : p + 1 ≠ t + 6 := by omega
  refine mw_astN 2 dX5_fineGives_5 rfl (by decide) ?_
  refine mw_aload_n dX5_fineGives_6 rfl ?_
  refine mw_ifnonnull (tgt := 15) dX5_fineGives_7 (by decide) ?_
  skip
  skip
  skip
  skip
  skip
  skip
  refine mw_aload_n dX5_fineGives_15 rfl ?_
  refine mw_getr dX5_fineGives_16 fl_X5_43 rfl (by assumption) (by assumption) ?_
  refine mw_iconst (v := 0) dX5_fineGives_19 (by decide) ?_
  refine mw_aload_n dX5_fineGives_20 rfl ?_
  refine mw_geti dX5_fineGives_21 fl_X5_178 rfl (by assumption) ?_
  refine mw_iastK (k := 0) dX5_fineGives_24 (by assumption) (rfl) (by decide) (by decide) ?_
  refine mw_aload_n dX5_fineGives_25 rfl ?_
  refine mw_getr dX5_fineGives_26 fl_X5_43 rfl (by assumption) (by assumption) ?_
  refine mw_iconst (v := 1) dX5_fineGives_29 (by decide) ?_
  refine mw_aload_n dX5_fineGives_30 rfl ?_
  refine mw_geti dX5_fineGives_31 fl_X5_175 rfl (by assumption) ?_
  refine mw_iastK (k := 1) dX5_fineGives_34 (by assumption) (rfl) (by decide) (by decide) ?_
  refine mw_aload_n dX5_fineGives_35 rfl ?_
  refine mw_aload_n dX5_fineGives_36 rfl ?_
  refine mw_getr dX5_fineGives_37 fl_X5_43 rfl (by assumption) (by assumption) ?_
  refine mw_aload_n dX5_fineGives_40 rfl ?_
  refine mw_getr dX5_fineGives_41 fl_X5_46 rfl (by assumption) (by assumption) ?_
  refine mw_cVI (g := fX4_gives) dX5_fineGives_44 ml_X5_165 mfX4_gives (ok_X4_gives x1 x2 x3 (by omega) k_t_names k_t_pile (by omega) (by omega)) (by assumption) rfl rfl (Nat.le_of_ble_eq_true rfl) ⟨by decide, by decide⟩ ⟨by decide, by decide⟩ ?_
  exact mw_iret dX5_fineGives_47 rfl (by decide) (by decide) (⟨by rw [m_up_ne np1, m_up_ne np1, gRun_law2 (a := mi q 3) (b := mi q 4) x5 x6 (by simp [m_up_row, upd]) (by simp [m_up_row, upd, m_up_ne nq])]; simp only [lwC, htx, Option.map_some, law2F, x3.2], rfl, fun a h1 h2 => by rw [m_row_ne h2, m_up_ne h1, m_up_ne h1]⟩)
theorem dX5_rentOfAll_0 : decode fX5_rentOfAll.2.1 0 = .ok (.iconst 0, 1) := by decide +kernel
theorem dX5_rentOfAll_1 : decode fX5_rentOfAll.2.1 1 = .ok (.istore_n 1, 1) := by decide +kernel
theorem dX5_rentOfAll_2 : decode fX5_rentOfAll.2.1 2 = .ok (.iconst 0, 1) := by decide +kernel
theorem dX5_rentOfAll_3 : decode fX5_rentOfAll.2.1 3 = .ok (.istore_n 2, 1) := by decide +kernel
theorem dX5_rentOfAll_4 : decode fX5_rentOfAll.2.1 4 = .ok (.iload_n 2, 1) := by decide +kernel
theorem dX5_rentOfAll_5 : decode fX5_rentOfAll.2.1 5 = .ok (.aload_n 0, 1) := by decide +kernel
theorem dX5_rentOfAll_6 : decode fX5_rentOfAll.2.1 6 = .ok (.getfield 59, 3) := by decide +kernel
theorem dX5_rentOfAll_9 : decode fX5_rentOfAll.2.1 9 = .ok (.if_icmp .ge 22, 3) := by decide +kernel
theorem dX5_rentOfAll_12 : decode fX5_rentOfAll.2.1 12 = .ok (.iload_n 1, 1) := by decide +kernel
theorem dX5_rentOfAll_13 : decode fX5_rentOfAll.2.1 13 = .ok (.aload_n 0, 1) := by decide +kernel
theorem dX5_rentOfAll_14 : decode fX5_rentOfAll.2.1 14 = .ok (.aload_n 0, 1) := by decide +kernel
theorem dX5_rentOfAll_15 : decode fX5_rentOfAll.2.1 15 = .ok (.getfield 20, 3) := by decide +kernel
theorem dX5_rentOfAll_18 : decode fX5_rentOfAll.2.1 18 = .ok (.iload_n 2, 1) := by decide +kernel
theorem dX5_rentOfAll_19 : decode fX5_rentOfAll.2.1 19 = .ok (.aaload, 1) := by decide +kernel
theorem dX5_rentOfAll_20 : decode fX5_rentOfAll.2.1 20 = .ok (.invokevirtual 101, 3) := by decide +kernel
theorem dX5_rentOfAll_23 : decode fX5_rentOfAll.2.1 23 = .ok (.iadd, 1) := by decide +kernel
theorem dX5_rentOfAll_24 : decode fX5_rentOfAll.2.1 24 = .ok (.istore_n 1, 1) := by decide +kernel
theorem dX5_rentOfAll_25 : decode fX5_rentOfAll.2.1 25 = .ok (.iinc 2 1, 3) := by decide +kernel
theorem dX5_rentOfAll_28 : decode fX5_rentOfAll.2.1 28 = .ok (.goto (-24), 3) := by decide +kernel
theorem dX5_rentOfAll_31 : decode fX5_rentOfAll.2.1 31 = .ok (.iload_n 1, 1) := by decide +kernel
theorem dX5_rentOfAll_32 : decode fX5_rentOfAll.2.1 32 = .ok (.ireturn, 1) := by decide +kernel
set_option maxRecDepth 100000 in
set_option maxHeartbeats 4000000 in
theorem ok_X5_rentOfAll {X : Xb} {S : Sg} {mi : Mem} {t n : Nat} {A : Nat → Int32} {lw : LawT} (hT : TwA S t) (hn8 : n ≤ 8) (hA : eqOn (26 + 5 * n) (tv mi t) A) (hn : A 1 = nI n) (hx : TxOk S mi t 0) (hl : lwC S mi t 0 = lw) : Ok 4 0 0 fX5_rentOfAll X [rf X t] S mi (fun r S' m => r = some (.int (fld (fun s i => s + rRent lw A i) 0 n)) ∧ S' = S ∧ Scr t mi m) := by
  refine Ok.go [some (rf X t), none, none] (by decide) (by simp [Value.category]) (Nat.le_of_ble_eq_true rfl) rfl ?_
  obtain ⟨k_t, ⟨r_t_home, k_t_home⟩, ⟨r_t_price, k_t_price⟩, ⟨r_t_attics, k_t_attics⟩, ⟨r_t_texts, k_t_texts⟩, ⟨r_t_counting, k_t_counting⟩, ⟨r_t_names, k_t_names⟩, ⟨r_t_pile, k_t_pile⟩, ⟨r_t_views, k_t_views⟩, a_t⟩ := id hT
  have lp := mw_dn (P := fun k => ∀ m2, Scr t mi m2 → MW X fX5_rentOfAll (rmOf 4 0 0) 0 0 4 [some (rf X t), some (.int (fld (fun s i => s + rRent lw A i) 0 k)), some (.int (nI k))] [] S m2 (mQ X 0 0 (fun r S' m => r = some (.int (fld (fun s i => s + rRent lw A i) 0 n)) ∧ S' = S ∧ Scr t mi m))) n (by
    intro m2 hs
    have h2 := tv_scr hs hA
    have ec : m2 t 3 = nI n := by rw [show (3 : Nat) = tvF 1 from rfl, tv_0 h2 (by decide) (by omega), hn]
    refine mw_iload_n dX5_rentOfAll_4 rfl ?_
    refine mw_aload_n dX5_rentOfAll_5 rfl ?_
    refine mw_geti dX5_rentOfAll_6 fl_X5_59 rfl (by assumption) ?_
    rw [ec]
    refine mw_icmp_ge (tgt := 31) dX5_rentOfAll_9 (by decide) (fun h9 => ?_) (fun h9 => ?_)
    · skip
      refine mw_iload_n dX5_rentOfAll_31 rfl ?_
      exact mw_iret dX5_rentOfAll_32 rfl (by decide) (by decide) (⟨rfl, rfl, hs⟩)
    · skip
      exact absurd (Int32.le_refl _) h9) (fun k hk ih => by
    intro m2 hs
    have h2 := tv_scr hs hA
    have ec : m2 t 3 = nI n := by rw [show (3 : Nat) = tvF 1 from rfl, tv_0 h2 (by decide) (by omega), hn]
    have hx2 := hx.fr hT (Frt.scr hs)
    have hl2 : lwC S m2 t 0 = lw := (lwC_fr hT hx (Frt.scr hs)).trans hl
    have er : cRent S m2 t (t + 9 + k) = rRent lw A k := by rw [cRent_of h2 (by omega), hl2]
    have hka := (a_t k (by omega)).2
    refine mw_iload_n dX5_rentOfAll_4 rfl ?_
    refine mw_aload_n dX5_rentOfAll_5 rfl ?_
    refine mw_geti dX5_rentOfAll_6 fl_X5_59 rfl (by assumption) ?_
    rw [ec]
    refine mw_icmp_ge (tgt := 31) dX5_rentOfAll_9 (by decide) (fun h9 => ?_) (fun h9 => ?_)
    · skip
      exact absurd h9 (nI_ge hk (by omega))
    · skip
      refine mw_iload_n dX5_rentOfAll_12 rfl ?_
      refine mw_aload_n dX5_rentOfAll_13 rfl ?_
      refine mw_aload_n dX5_rentOfAll_14 rfl ?_
      refine mw_getr dX5_rentOfAll_15 fl_X5_20 rfl (by assumption) (by assumption) ?_
      refine mw_iload_n dX5_rentOfAll_18 rfl ?_
      refine mw_aldK (k := k) dX5_rentOfAll_19 (by assumption) (by decide) (rfl) (by omega) (by decide) ((a_t k (by omega)).1) ?_
      refine mw_callV (g := fX5_rentOf) dX5_rentOfAll_20 ml_X5_101 mfX5_rentOf (ok_rentOf hT hka hx2) (by assumption) rfl rfl (Nat.le_of_ble_eq_true rfl) ⟨by decide, by decide⟩ ⟨by decide, by decide⟩ (fun r S2 mi2 hp => ?_)
      obtain ⟨rfl, e1, hs2⟩ := hp
      rw [e1, er]
      refine mw_iadd dX5_rentOfAll_23 ?_
      refine mw_istN 1 dX5_rentOfAll_24 rfl (by decide) ?_
      refine mw_iincK (k := k) dX5_rentOfAll_25 rfl rfl (by decide) ?_
      refine mw_goto (tgt := 4) dX5_rentOfAll_28 (by decide) ?_
      exact MW.sub (by simp [lsub, fld]) (ih _ (hs.tr hs2)))
  refine mw_iconst (v := 0) dX5_rentOfAll_0 (by decide) ?_
  refine mw_istN 1 dX5_rentOfAll_1 rfl (by decide) ?_
  refine mw_iconst (v := 0) dX5_rentOfAll_2 (by decide) ?_
  refine mw_istN 2 dX5_rentOfAll_3 rfl (by decide) ?_
  exact MW.sub (by simp [lsub, fld, nI_0]) (lp mi (Scr.rf t mi))
theorem dX5_feeGives_0 : decode fX5_feeGives.2.1 0 = .ok (.aload_n 0, 1) := by decide +kernel
theorem dX5_feeGives_1 : decode fX5_feeGives.2.1 1 = .ok (.iconst 1, 1) := by decide +kernel
theorem dX5_feeGives_2 : decode fX5_feeGives.2.1 2 = .ok (.invokevirtual 161, 3) := by decide +kernel
theorem dX5_feeGives_5 : decode fX5_feeGives.2.1 5 = .ok (.astore_n 1, 1) := by decide +kernel
theorem dX5_feeGives_6 : decode fX5_feeGives.2.1 6 = .ok (.aload_n 1, 1) := by decide +kernel
theorem dX5_feeGives_7 : decode fX5_feeGives.2.1 7 = .ok (.ifnonnull 8, 3) := by decide +kernel
theorem dX5_feeGives_10 : decode fX5_feeGives.2.1 10 = .ok (.aload_n 0, 1) := by decide +kernel
theorem dX5_feeGives_11 : decode fX5_feeGives.2.1 11 = .ok (.getfield 72, 3) := by decide +kernel
theorem dX5_feeGives_14 : decode fX5_feeGives.2.1 14 = .ok (.ireturn, 1) := by decide +kernel
theorem dX5_feeGives_15 : decode fX5_feeGives.2.1 15 = .ok (.aload_n 0, 1) := by decide +kernel
theorem dX5_feeGives_16 : decode fX5_feeGives.2.1 16 = .ok (.getfield 43, 3) := by decide +kernel
theorem dX5_feeGives_19 : decode fX5_feeGives.2.1 19 = .ok (.iconst 0, 1) := by decide +kernel
theorem dX5_feeGives_20 : decode fX5_feeGives.2.1 20 = .ok (.aload_n 0, 1) := by decide +kernel
theorem dX5_feeGives_21 : decode fX5_feeGives.2.1 21 = .ok (.getfield 72, 3) := by decide +kernel
theorem dX5_feeGives_24 : decode fX5_feeGives.2.1 24 = .ok (.iastore, 1) := by decide +kernel
theorem dX5_feeGives_25 : decode fX5_feeGives.2.1 25 = .ok (.aload_n 0, 1) := by decide +kernel
theorem dX5_feeGives_26 : decode fX5_feeGives.2.1 26 = .ok (.getfield 43, 3) := by decide +kernel
theorem dX5_feeGives_29 : decode fX5_feeGives.2.1 29 = .ok (.iconst 1, 1) := by decide +kernel
theorem dX5_feeGives_30 : decode fX5_feeGives.2.1 30 = .ok (.aload_n 0, 1) := by decide +kernel
theorem dX5_feeGives_31 : decode fX5_feeGives.2.1 31 = .ok (.invokevirtual 172, 3) := by decide +kernel
theorem dX5_feeGives_34 : decode fX5_feeGives.2.1 34 = .ok (.iastore, 1) := by decide +kernel
theorem dX5_feeGives_35 : decode fX5_feeGives.2.1 35 = .ok (.aload_n 1, 1) := by decide +kernel
theorem dX5_feeGives_36 : decode fX5_feeGives.2.1 36 = .ok (.aload_n 0, 1) := by decide +kernel
theorem dX5_feeGives_37 : decode fX5_feeGives.2.1 37 = .ok (.getfield 43, 3) := by decide +kernel
theorem dX5_feeGives_40 : decode fX5_feeGives.2.1 40 = .ok (.aload_n 0, 1) := by decide +kernel
theorem dX5_feeGives_41 : decode fX5_feeGives.2.1 41 = .ok (.getfield 46, 3) := by decide +kernel
theorem dX5_feeGives_44 : decode fX5_feeGives.2.1 44 = .ok (.invokevirtual 165, 3) := by decide +kernel
theorem dX5_feeGives_47 : decode fX5_feeGives.2.1 47 = .ok (.ireturn, 1) := by decide +kernel
set_option maxRecDepth 100000 in
set_option maxHeartbeats 4000000 in
theorem ok_X5_feeGives {X : Xb} {S : Sg} {mi : Mem} {t n : Nat} (hT : TwA S t) (hn : mi t 3 = nI n) (hn8 : n ≤ 8) (hx : TxOk2 S mi t 1) : Ok 2 0 0 fX5_feeGives X [rf X t] S mi (fun r S' m => r = some (.int (law2F (lwC S mi t 1) (mi t 8) (mi t 8) (fld (fun s i => s + mi (t + 9 + i) 4) 0 n))) ∧ S' = S ∧ Scr t mi m) := by
  refine Ok.go [some (rf X t), none] (by decide) (by simp [Value.category]) (Nat.le_of_ble_eq_true rfl) rfl ?_
  obtain ⟨k_t, ⟨r_t_home, k_t_home⟩, ⟨r_t_price, k_t_price⟩, ⟨r_t_attics, k_t_attics⟩, ⟨r_t_texts, k_t_texts⟩, ⟨r_t_counting, k_t_counting⟩, ⟨r_t_names, k_t_names⟩, ⟨r_t_pile, k_t_pile⟩, ⟨r_t_views, k_t_views⟩, a_t⟩ := id hT
  refine mw_aload_n dX5_feeGives_0 rfl ?_
  refine mw_iconst (v := 1) dX5_feeGives_1 (by decide) ?_
  refine mw_callV (g := fX5_textFor) dX5_feeGives_2 ml_X5_161 mfX5_textFor (ok_X5_textFor hT (j := 1) (by decide)) (by assumption) rfl rfl (Nat.le_of_ble_eq_true rfl) ⟨by decide, by decide⟩ ⟨by decide, by decide⟩ (fun r S2 mi2 hp => ?_)
  obtain ⟨rfl, e1, e2⟩ := hp
  rw [e1, e2]
  cases htx : txOf S mi t 1 with
  | none =>
    refine mw_astore_nN dX5_feeGives_5 (by decide) ?_
    refine mw_aload_nN dX5_feeGives_6 rfl ?_
    refine mw_ifnonnullN dX5_feeGives_7 ?_
    refine mw_aload_n dX5_feeGives_10 rfl ?_
    refine mw_geti dX5_feeGives_11 fl_X5_72 rfl k_t ?_
    exact mw_iret dX5_feeGives_14 rfl (by decide) (by decide) ⟨by simp only [lwC, htx, Option.map_none, law2F], rfl, Scr.rf _ _⟩
  | some p =>
  obtain ⟨len, ⟨x1, x2, x3, x4⟩, x5⟩ := hx.1 p htx
  have x6 := hx.2 p htx
  rw [x3.2] at x6
  have np : p ≠ t + 6 := Kd_ne x1 k_t_names (by decide)
  have np5 : p ≠ t + 5 := Kd_ne x1 k_t_counting (by decide)
  have np1 : p + 1 ≠ t + 6 := by omega
  have nt : t ≠ t + 6 := by omega
  refine mw_astN 1 dX5_feeGives_5 rfl (by decide) ?_
  refine mw_aload_n dX5_feeGives_6 rfl ?_
  refine mw_ifnonnull (tgt := 15) dX5_feeGives_7 (by decide) ?_
  skip
  skip
  skip
  skip
  skip
  skip
  refine mw_aload_n dX5_feeGives_15 rfl ?_
  refine mw_getr dX5_feeGives_16 fl_X5_43 rfl (by assumption) (by assumption) ?_
  refine mw_iconst (v := 0) dX5_feeGives_19 (by decide) ?_
  refine mw_aload_n dX5_feeGives_20 rfl ?_
  refine mw_geti dX5_feeGives_21 fl_X5_72 rfl (by assumption) ?_
  refine mw_iastK (k := 0) dX5_feeGives_24 (by assumption) (rfl) (by decide) (by decide) ?_
  refine mw_aload_n dX5_feeGives_25 rfl ?_
  refine mw_getr dX5_feeGives_26 fl_X5_43 rfl (by assumption) (by assumption) ?_
  refine mw_iconst (v := 1) dX5_feeGives_29 (by decide) ?_
  refine mw_aload_n dX5_feeGives_30 rfl ?_
  refine mw_cVI (g := fX5_owedByAll) dX5_feeGives_31 ml_X5_172 mfX5_owedByAll (ok_X5_owedByAll hT (by rw [m_up_ne nt]; exact hn) hn8) (by assumption) rfl rfl (Nat.le_of_ble_eq_true rfl) ⟨by decide, by decide⟩ ⟨by decide, by decide⟩ ?_
  rw [fld_congr n (fun s k hk => by rw [m_up_ne (show t + 9 + k ≠ t + 6 by omega)])]
  refine mw_iastK (k := 1) dX5_feeGives_34 (by assumption) (rfl) (by decide) (by decide) ?_
  refine mw_aload_n dX5_feeGives_35 rfl ?_
  refine mw_aload_n dX5_feeGives_36 rfl ?_
  refine mw_getr dX5_feeGives_37 fl_X5_43 rfl (by assumption) (by assumption) ?_
  refine mw_aload_n dX5_feeGives_40 rfl ?_
  refine mw_getr dX5_feeGives_41 fl_X5_46 rfl (by assumption) (by assumption) ?_
  refine mw_cVI (g := fX4_gives) dX5_feeGives_44 ml_X5_165 mfX4_gives (ok_X4_gives x1 x2 x3 (by omega) k_t_names k_t_pile (by omega) (by omega)) (by assumption) rfl rfl (Nat.le_of_ble_eq_true rfl) ⟨by decide, by decide⟩ ⟨by decide, by decide⟩ ?_
  exact mw_iret dX5_feeGives_47 rfl (by decide) (by decide) (⟨by rw [m_up_ne np1, m_up_ne np1, gRun_law2 (a := mi t 8) (b := fld (fun s i => s + mi (t + 9 + i) 4) 0 n) x5 x6 (by simp [m_up_row, upd]) (by simp [m_up_row, upd])]; simp only [lwC, htx, Option.map_some, law2F, x3.2], rfl, fun a h1 h2 => by rw [m_row_ne h2, m_up_ne h1, m_up_ne h1]⟩)
end
section
/-! Town: the fewest attics; a town taken after another -/
def viewSet (vw : Nat → Int32) (n : Nat) (j : Int32) : Int32 := fld (fun s i => if j >>> (nI i &&& 31) &&& 1 = 1 then s ||| vw i else s) 0 n
def covC (vw : Nat → Int32) (n : Nat) (stars : Int32) : Nat → Int32 × Int32
  | 0 => (-1000000005, 9)
  | s + 1 => if jBits (nI s) < (covC vw n stars s).2 ∧ stars &&& (viewSet vw n (nI s) ^^^ (-1)) = 0 then (nI s, jBits (nI s)) else covC vw n stars s
theorem shl_n : ∀ n, n ≤ 8 → (1 : Int32) <<< (nI n &&& 31) = nI (2 ^ n) := by decide
theorem viewSet_congr {vw vw' : Nat → Int32} {n : Nat} {j : Int32} (h : ∀ i, i < n → vw i = vw' i) : viewSet vw n j = viewSet vw' n j := fld_congr n (fun s k hk => by rw [h k hk])
theorem dX5_fewestFor_0 : decode fX5_fewestFor.2.1 0 = .ok (.iconst 0, 1) := by decide +kernel
theorem dX5_fewestFor_1 : decode fX5_fewestFor.2.1 1 = .ok (.istore_n 2, 1) := by decide +kernel
theorem dX5_fewestFor_2 : decode fX5_fewestFor.2.1 2 = .ok (.iload_n 2, 1) := by decide +kernel
theorem dX5_fewestFor_3 : decode fX5_fewestFor.2.1 3 = .ok (.aload_n 0, 1) := by decide +kernel
theorem dX5_fewestFor_4 : decode fX5_fewestFor.2.1 4 = .ok (.getfield 59, 3) := by decide +kernel
theorem dX5_fewestFor_7 : decode fX5_fewestFor.2.1 7 = .ok (.if_icmp .ge 25, 3) := by decide +kernel
theorem dX5_fewestFor_10 : decode fX5_fewestFor.2.1 10 = .ok (.aload_n 0, 1) := by decide +kernel
theorem dX5_fewestFor_11 : decode fX5_fewestFor.2.1 11 = .ok (.getfield 49, 3) := by decide +kernel
theorem dX5_fewestFor_14 : decode fX5_fewestFor.2.1 14 = .ok (.iload_n 2, 1) := by decide +kernel
theorem dX5_fewestFor_15 : decode fX5_fewestFor.2.1 15 = .ok (.aload_n 0, 1) := by decide +kernel
theorem dX5_fewestFor_16 : decode fX5_fewestFor.2.1 16 = .ok (.aload_n 0, 1) := by decide +kernel
theorem dX5_fewestFor_17 : decode fX5_fewestFor.2.1 17 = .ok (.getfield 20, 3) := by decide +kernel
theorem dX5_fewestFor_20 : decode fX5_fewestFor.2.1 20 = .ok (.iload_n 2, 1) := by decide +kernel
theorem dX5_fewestFor_21 : decode fX5_fewestFor.2.1 21 = .ok (.aaload, 1) := by decide +kernel
theorem dX5_fewestFor_22 : decode fX5_fewestFor.2.1 22 = .ok (.invokevirtual 142, 3) := by decide +kernel
theorem dX5_fewestFor_25 : decode fX5_fewestFor.2.1 25 = .ok (.iastore, 1) := by decide +kernel
theorem dX5_fewestFor_26 : decode fX5_fewestFor.2.1 26 = .ok (.iinc 2 1, 3) := by decide +kernel
theorem dX5_fewestFor_29 : decode fX5_fewestFor.2.1 29 = .ok (.goto (-27), 3) := by decide +kernel
theorem dX5_fewestFor_32 : decode fX5_fewestFor.2.1 32 = .ok (.ldc 145, 2) := by decide +kernel
theorem dX5_fewestFor_34 : decode fX5_fewestFor.2.1 34 = .ok (.istore_n 2, 1) := by decide +kernel
theorem dX5_fewestFor_35 : decode fX5_fewestFor.2.1 35 = .ok (.bipush 9, 2) := by decide +kernel
theorem dX5_fewestFor_37 : decode fX5_fewestFor.2.1 37 = .ok (.istore_n 3, 1) := by decide +kernel
theorem dX5_fewestFor_38 : decode fX5_fewestFor.2.1 38 = .ok (.iconst 0, 1) := by decide +kernel
theorem dX5_fewestFor_39 : decode fX5_fewestFor.2.1 39 = .ok (.istore 4, 2) := by decide +kernel
theorem dX5_fewestFor_41 : decode fX5_fewestFor.2.1 41 = .ok (.iload 4, 2) := by decide +kernel
theorem dX5_fewestFor_43 : decode fX5_fewestFor.2.1 43 = .ok (.iconst 1, 1) := by decide +kernel
theorem dX5_fewestFor_44 : decode fX5_fewestFor.2.1 44 = .ok (.aload_n 0, 1) := by decide +kernel
theorem dX5_fewestFor_45 : decode fX5_fewestFor.2.1 45 = .ok (.getfield 59, 3) := by decide +kernel
theorem dX5_fewestFor_48 : decode fX5_fewestFor.2.1 48 = .ok (.ishl, 1) := by decide +kernel
theorem dX5_fewestFor_49 : decode fX5_fewestFor.2.1 49 = .ok (.if_icmp .ge 41, 3) := by decide +kernel
theorem dX5_fewestFor_52 : decode fX5_fewestFor.2.1 52 = .ok (.iload 4, 2) := by decide +kernel
theorem dX5_fewestFor_54 : decode fX5_fewestFor.2.1 54 = .ok (.invokestatic 146, 3) := by decide +kernel
theorem dX5_fewestFor_57 : decode fX5_fewestFor.2.1 57 = .ok (.istore 5, 2) := by decide +kernel
theorem dX5_fewestFor_59 : decode fX5_fewestFor.2.1 59 = .ok (.iload 5, 2) := by decide +kernel
theorem dX5_fewestFor_61 : decode fX5_fewestFor.2.1 61 = .ok (.iload_n 3, 1) := by decide +kernel
theorem dX5_fewestFor_62 : decode fX5_fewestFor.2.1 62 = .ok (.if_icmp .ge 22, 3) := by decide +kernel
theorem dX5_fewestFor_65 : decode fX5_fewestFor.2.1 65 = .ok (.iload_n 1, 1) := by decide +kernel
theorem dX5_fewestFor_66 : decode fX5_fewestFor.2.1 66 = .ok (.aload_n 0, 1) := by decide +kernel
theorem dX5_fewestFor_67 : decode fX5_fewestFor.2.1 67 = .ok (.iload 4, 2) := by decide +kernel
theorem dX5_fewestFor_69 : decode fX5_fewestFor.2.1 69 = .ok (.invokevirtual 151, 3) := by decide +kernel
theorem dX5_fewestFor_72 : decode fX5_fewestFor.2.1 72 = .ok (.iconst (-1), 1) := by decide +kernel
theorem dX5_fewestFor_73 : decode fX5_fewestFor.2.1 73 = .ok (.ixor, 1) := by decide +kernel
theorem dX5_fewestFor_74 : decode fX5_fewestFor.2.1 74 = .ok (.iand, 1) := by decide +kernel
theorem dX5_fewestFor_75 : decode fX5_fewestFor.2.1 75 = .ok (.ifCond .ne 9, 3) := by decide +kernel
theorem dX5_fewestFor_78 : decode fX5_fewestFor.2.1 78 = .ok (.iload 5, 2) := by decide +kernel
theorem dX5_fewestFor_80 : decode fX5_fewestFor.2.1 80 = .ok (.istore_n 3, 1) := by decide +kernel
theorem dX5_fewestFor_81 : decode fX5_fewestFor.2.1 81 = .ok (.iload 4, 2) := by decide +kernel
theorem dX5_fewestFor_83 : decode fX5_fewestFor.2.1 83 = .ok (.istore_n 2, 1) := by decide +kernel
theorem dX5_fewestFor_84 : decode fX5_fewestFor.2.1 84 = .ok (.iinc 4 1, 3) := by decide +kernel
theorem dX5_fewestFor_87 : decode fX5_fewestFor.2.1 87 = .ok (.goto (-46), 3) := by decide +kernel
theorem dX5_fewestFor_90 : decode fX5_fewestFor.2.1 90 = .ok (.iload_n 2, 1) := by decide +kernel
theorem dX5_fewestFor_91 : decode fX5_fewestFor.2.1 91 = .ok (.ireturn, 1) := by decide +kernel
set_option maxRecDepth 100000 in
set_option maxHeartbeats 4000000 in
theorem ok_X5_fewestFor {X : Xb} {S : Sg} {mi : Mem} {t n : Nat} {stars : Int32} (hT : TwA S t) (hn : mi t 3 = nI n) (hn8 : n ≤ 8) : Ok 3 0 0 fX5_fewestFor X [rf X t, .int stars] S mi (fun r S' m => r = some (.int (covC (fun i => cSeesA mi t i) n stars (2 ^ n)).1) ∧ S' = S ∧ ∀ a, a ≠ t + 8 → m a = mi a) := by
  refine Ok.go [some (rf X t), some (.int stars), none, none, none, none] (by decide) (by simp [Value.category]) (Nat.le_of_ble_eq_true rfl) rfl ?_
  obtain ⟨k_t, ⟨r_t_home, k_t_home⟩, ⟨r_t_price, k_t_price⟩, ⟨r_t_attics, k_t_attics⟩, ⟨r_t_texts, k_t_texts⟩, ⟨r_t_counting, k_t_counting⟩, ⟨r_t_names, k_t_names⟩, ⟨r_t_pile, k_t_pile⟩, ⟨r_t_views, k_t_views⟩, a_t⟩ := id hT
  have h2n : 2 ^ n ≤ 256 := by have := Nat.pow_le_pow_right (show 0 < 2 by decide) hn8; omega
  have p2 : ∀ m, (∀ a, a ≠ t + 8 → m a = mi a) → (∀ i, i < n → m (t + 8) i = cSeesA mi t i) → MW X fX5_fewestFor (rmOf 3 0 0) 0 0 41 [some (rf X t), some (.int stars), some (.int (-1000000005)), some (.int 9), some (.int (nI 0)), none] [] S m (mQ X 0 0 (fun r S' m => r = some (.int (covC (fun i => cSeesA mi t i) n stars (2 ^ n)).1) ∧ S' = S ∧ ∀ a, a ≠ t + 8 → m a = mi a)) := by
    intro m hm hv
    have ec : m t 3 = nI n := by rw [hm t (by omega)]; exact hn
    have lp := mw_dn (P := fun k => MW X fX5_fewestFor (rmOf 3 0 0) 0 0 41 [some (rf X t), some (.int stars), some (.int (covC (fun i => cSeesA mi t i) n stars k).1), some (.int (covC (fun i => cSeesA mi t i) n stars k).2), some (.int (nI k)), none] [] S m (mQ X 0 0 (fun r S' m => r = some (.int (covC (fun i => cSeesA mi t i) n stars (2 ^ n)).1) ∧ S' = S ∧ ∀ a, a ≠ t + 8 → m a = mi a))) (2^n) (by
      refine mw_iload dX5_fewestFor_41 rfl ?_
      refine mw_iconst (v := 1) dX5_fewestFor_43 (by decide) ?_
      refine mw_aload_n dX5_fewestFor_44 rfl ?_
      refine mw_geti dX5_fewestFor_45 fl_X5_59 rfl (by assumption) ?_
      rw [ec]
      refine mw_ishl dX5_fewestFor_48 ?_
      rw [shl_n n hn8]
      refine mw_icmp_ge (tgt := 90) dX5_fewestFor_49 (by decide) (fun h49 => ?_) (fun h49 => ?_)
      · skip
        refine mw_iload_n dX5_fewestFor_90 rfl ?_
        exact mw_iret dX5_fewestFor_91 rfl (by decide) (by decide) (⟨rfl, rfl, hm⟩)
      · skip
        exact absurd (Int32.le_refl _) h49) (fun k hk ih => by
      refine mw_iload dX5_fewestFor_41 rfl ?_
      refine mw_iconst (v := 1) dX5_fewestFor_43 (by decide) ?_
      refine mw_aload_n dX5_fewestFor_44 rfl ?_
      refine mw_geti dX5_fewestFor_45 fl_X5_59 rfl (by assumption) ?_
      rw [ec]
      refine mw_ishl dX5_fewestFor_48 ?_
      rw [shl_n n hn8]
      refine mw_icmp_ge (tgt := 90) dX5_fewestFor_49 (by decide) (fun h49 => ?_) (fun h49 => ?_)
      · skip
        exact absurd h49 (nI_ge hk (by omega))
      · skip
        refine mw_iload dX5_fewestFor_52 rfl ?_
        refine mw_cSI (g := fJ6_bitCount_0f7a4) dX5_fewestFor_54 ml_X5_146 mfJ6_bitCount_0f7a4 (ok_J6_bitCount_0f7a4) rfl rfl (Nat.le_of_ble_eq_true rfl) ⟨by decide, by decide⟩ ⟨by decide, by decide⟩ ?_
        refine mw_istore dX5_fewestFor_57 (by decide) ?_
        refine mw_iload dX5_fewestFor_59 rfl ?_
        refine mw_iload_n dX5_fewestFor_61 rfl ?_
        refine mw_icmp_ge (tgt := 84) dX5_fewestFor_62 (by decide) (fun h62 => ?_) (fun h62 => ?_)
        · skip
          refine mw_iincK (k := k) dX5_fewestFor_84 rfl rfl (by decide) ?_
          refine mw_goto (tgt := 41) dX5_fewestFor_87 (by decide) ?_
          refine MW.sub ?_ ih
          simp only [covC]
          first
            | (rw [if_neg (fun q => absurd q.1 (Int32.not_lt.mpr h62))]; simp [lsub])
            | (rw [if_neg (fun q => h75 q.2)]; simp [lsub])
            | (rw [if_pos ⟨Int32.not_le.mp h62, h75⟩]; simp [lsub])
        · skip
          refine mw_iload_n dX5_fewestFor_65 rfl ?_
          refine mw_aload_n dX5_fewestFor_66 rfl ?_
          refine mw_iload dX5_fewestFor_67 rfl ?_
          refine mw_cVI (g := fX5_viewOf) dX5_fewestFor_69 ml_X5_151 mfX5_viewOf (ok_X5_viewOf hT ec hn8) (by assumption) rfl rfl (Nat.le_of_ble_eq_true rfl) ⟨by decide, by decide⟩ ⟨by decide, by decide⟩ ?_
          rw [show fld (fun s i => if nI k >>> (nI i &&& 31) &&& 1 = 1 then s ||| m (t + 8) i else s) 0 n = viewSet (fun i => cSeesA mi t i) n (nI k) from viewSet_congr hv]
          refine mw_iconst (v := (-1)) dX5_fewestFor_72 (by decide) ?_
          refine mw_ixor dX5_fewestFor_73 ?_
          refine mw_iand dX5_fewestFor_74 ?_
          refine mw_if_ne (tgt := 84) dX5_fewestFor_75 (by decide) (fun h75 => ?_) (fun h75 => ?_)
          · skip
            refine mw_iincK (k := k) dX5_fewestFor_84 rfl rfl (by decide) ?_
            refine mw_goto (tgt := 41) dX5_fewestFor_87 (by decide) ?_
            refine MW.sub ?_ ih
            simp only [covC]
            first
              | (rw [if_neg (fun q => absurd q.1 (Int32.not_lt.mpr h62))]; simp [lsub])
              | (rw [if_neg (fun q => h75 q.2)]; simp [lsub])
              | (rw [if_pos ⟨Int32.not_le.mp h62, h75⟩]; simp [lsub])
          · skip
            refine mw_iload dX5_fewestFor_78 rfl ?_
            refine mw_istN 3 dX5_fewestFor_80 rfl (by decide) ?_
            refine mw_iload dX5_fewestFor_81 rfl ?_
            refine mw_istN 2 dX5_fewestFor_83 rfl (by decide) ?_
            refine mw_iincK (k := k) dX5_fewestFor_84 rfl rfl (by decide) ?_
            refine mw_goto (tgt := 41) dX5_fewestFor_87 (by decide) ?_
            refine MW.sub ?_ ih
            simp only [covC]
            first
              | (rw [if_neg (fun q => absurd q.1 (Int32.not_lt.mpr h62))]; simp [lsub])
              | (rw [if_neg (fun q => h75 q.2)]; simp [lsub])
              | (rw [if_pos ⟨Int32.not_le.mp h62, h75⟩]; simp [lsub]))
    exact MW.sub (by simp [lsub, covC]) lp
  have lp := mw_dn (P := fun k => ∀ m, (∀ a, a ≠ t + 8 → m a = mi a) → (∀ i, i < k → m (t + 8) i = cSeesA mi t i) → MW X fX5_fewestFor (rmOf 3 0 0) 0 0 2 [some (rf X t), some (.int stars), some (.int (nI k)), none, none, none] [] S m (mQ X 0 0 (fun r S' m => r = some (.int (covC (fun i => cSeesA mi t i) n stars (2 ^ n)).1) ∧ S' = S ∧ ∀ a, a ≠ t + 8 → m a = mi a))) n (by
    intro m hm hv
    have ec : m t 3 = nI n := by rw [hm t (by omega)]; exact hn
    refine mw_iload_n dX5_fewestFor_2 rfl ?_
    refine mw_aload_n dX5_fewestFor_3 rfl ?_
    refine mw_geti dX5_fewestFor_4 fl_X5_59 rfl (by assumption) ?_
    rw [ec]
    refine mw_icmp_ge (tgt := 32) dX5_fewestFor_7 (by decide) (fun h7 => ?_) (fun h7 => ?_)
    · skip
      refine mw_ldc dX5_fewestFor_32 cn_X5_145 ?_
      refine mw_istN 2 dX5_fewestFor_34 rfl (by decide) ?_
      refine mw_bipush (v := 9) dX5_fewestFor_35 (by decide) ?_
      refine mw_istN 3 dX5_fewestFor_37 rfl (by decide) ?_
      refine mw_iconst (v := 0) dX5_fewestFor_38 (by decide) ?_
      refine mw_istore dX5_fewestFor_39 (by decide) ?_
      exact MW.sub (by simp [lsub, nI_0]) (p2 m hm hv)
    · skip
      exact absurd (Int32.le_refl _) h7) (fun k hk ih => by
    intro m hm hv
    have ec : m t 3 = nI n := by rw [hm t (by omega)]; exact hn
    have hka := (a_t k (by omega)).2
    have es : cSees (m (t + 1)) (m t 10) (m t 4) (m (t + 9 + k) 0) (m (t + 9 + k) 1) (m (t + 9 + k) 2) = cSeesA mi t k := by rw [hm (t + 1) (by omega), hm t (by omega), hm (t + 9 + k) (by omega)]
    refine mw_iload_n dX5_fewestFor_2 rfl ?_
    refine mw_aload_n dX5_fewestFor_3 rfl ?_
    refine mw_geti dX5_fewestFor_4 fl_X5_59 rfl (by assumption) ?_
    rw [ec]
    refine mw_icmp_ge (tgt := 32) dX5_fewestFor_7 (by decide) (fun h7 => ?_) (fun h7 => ?_)
    · skip
      exact absurd h7 (nI_ge hk (by omega))
    · skip
      refine mw_aload_n dX5_fewestFor_10 rfl ?_
      refine mw_getr dX5_fewestFor_11 fl_X5_49 rfl (by assumption) (by assumption) ?_
      refine mw_iload_n dX5_fewestFor_14 rfl ?_
      refine mw_aload_n dX5_fewestFor_15 rfl ?_
      refine mw_aload_n dX5_fewestFor_16 rfl ?_
      refine mw_getr dX5_fewestFor_17 fl_X5_20 rfl (by assumption) (by assumption) ?_
      refine mw_iload_n dX5_fewestFor_20 rfl ?_
      refine mw_aldK (k := k) dX5_fewestFor_21 (by assumption) (by decide) (rfl) (by omega) (by decide) ((a_t k (by omega)).1) ?_
      refine mw_cVI (g := fX5_seenBy) dX5_fewestFor_22 ml_X5_142 mfX5_seenBy (ok_X5_seenBy hT hka) (by assumption) rfl rfl (Nat.le_of_ble_eq_true rfl) ⟨by decide, by decide⟩ ⟨by decide, by decide⟩ ?_
      rw [es]
      refine mw_iastK (k := k) dX5_fewestFor_25 (by assumption) (rfl) (by omega) (by decide) ?_
      refine mw_iincK (k := k) dX5_fewestFor_26 rfl rfl (by decide) ?_
      refine mw_goto (tgt := 2) dX5_fewestFor_29 (by decide) ?_
      refine MW.sub (by simp [lsub]) (ih _ (fun a ha => by rw [m_up_ne ha]; exact hm a ha) (fun i hi => ?_))
      by_cases c : i = k
      · subst c; rw [m_up_at]
      · rw [m_up_of c]; exact hv i (by omega))
  refine mw_iconst (v := 0) dX5_fewestFor_0 (by decide) ?_
  refine mw_istN 2 dX5_fewestFor_1 rfl (by decide) ?_
  exact MW.sub (by simp [lsub, nI_0]) (lp mi (fun _ _ => rfl) (fun i hi => absurd hi (Nat.not_lt_zero i)))
/-- the texts of town t become those of town u -/
def cpR (mr : Rfm) (t u k : Nat) : Rfm := fun a j => if a = t + 4 ∧ j < k then mr (u + 4) j else mr a j
abbrev cpS (S : Sg) (t u k : Nat) : Sg := (S.1, S.2.1, cpR S.2.2 t u k)
theorem TwA.cp {S : Sg} {w t u k : Nat} (h : TwA S w) (h4 : Kd S (t + 4) 14 14) : TwA (cpS S t u k) w := by
  have n0 : w ≠ t + 4 := Kd_ne h.1 h4 (by decide)
  have n3 : w + 3 ≠ t + 4 := Kd_ne h.2.2.2.1.2 h4 (by decide)
  have e0 : ∀ j, cpR S.2.2 t u k w j = S.2.2 w j := fun j => by simp [cpR, n0]
  have e3 : ∀ j, cpR S.2.2 t u k (w + 3) j = S.2.2 (w + 3) j := fun j => by simp only [cpR, n3, false_and, if_false]
  obtain ⟨k0, ⟨a1, b1⟩, ⟨a2, b2⟩, ⟨a3, b3⟩, ⟨a4, b4⟩, ⟨a5, b5⟩, ⟨a6, b6⟩, ⟨a7, b7⟩, ⟨a8, b8⟩, a9⟩ := h
  exact ⟨k0, ⟨(e0 _).trans a1, b1⟩, ⟨(e0 _).trans a2, b2⟩, ⟨(e0 _).trans a3, b3⟩, ⟨(e0 _).trans a4, b4⟩, ⟨(e0 _).trans a5, b5⟩, ⟨(e0 _).trans a6, b6⟩, ⟨(e0 _).trans a7, b7⟩, ⟨(e0 _).trans a8, b8⟩, fun i hi => ⟨(e3 i).trans (a9 i hi).1, (a9 i hi).2⟩⟩
end
section
/-! a town taken after another -/
def TxR (S : Sg) (u : Nat) : Prop := ∀ i, i < 14 → ∀ p, S.2.2 (u + 4) i = some p → Kd S p 4 0
theorem cpR_0 (mr : Rfm) (t u : Nat) : cpR mr t u 0 = mr := by funext a j; simp [cpR]
theorem cpR_s {mr : Rfm} {t u k : Nat} (h : t ≠ u) : r_up (cpR mr t u k) (t + 4) k (mr (u + 4) k) = cpR mr t u (k + 1) := by
  funext a j
  simp only [r_up, cpR]
  by_cases c : a = t + 4
  · subst c
    by_cases c2 : j = k
    · subst c2; simp
    · simp only [c2, and_false, if_false, true_and]
      by_cases c3 : j < k
      · simp [c3, show j < k + 1 by omega]
      · simp [c3, show ¬ j < k + 1 by omega]
  · simp [c]
theorem dX5_takeAfter_0 : decode fX5_takeAfter.2.1 0 = .ok (.aload_n 1, 1) := by decide +kernel
theorem dX5_takeAfter_1 : decode fX5_takeAfter.2.1 1 = .ok (.getfield 9, 3) := by decide +kernel
theorem dX5_takeAfter_4 : decode fX5_takeAfter.2.1 4 = .ok (.iconst 0, 1) := by decide +kernel
theorem dX5_takeAfter_5 : decode fX5_takeAfter.2.1 5 = .ok (.aload_n 0, 1) := by decide +kernel
theorem dX5_takeAfter_6 : decode fX5_takeAfter.2.1 6 = .ok (.getfield 9, 3) := by decide +kernel
theorem dX5_takeAfter_9 : decode fX5_takeAfter.2.1 9 = .ok (.iconst 0, 1) := by decide +kernel
theorem dX5_takeAfter_10 : decode fX5_takeAfter.2.1 10 = .ok (.bipush 8, 2) := by decide +kernel
theorem dX5_takeAfter_12 : decode fX5_takeAfter.2.1 12 = .ok (.invokestatic 53, 3) := by decide +kernel
theorem dX5_takeAfter_15 : decode fX5_takeAfter.2.1 15 = .ok (.aload_n 1, 1) := by decide +kernel
theorem dX5_takeAfter_16 : decode fX5_takeAfter.2.1 16 = .ok (.getfield 15, 3) := by decide +kernel
theorem dX5_takeAfter_19 : decode fX5_takeAfter.2.1 19 = .ok (.iconst 0, 1) := by decide +kernel
theorem dX5_takeAfter_20 : decode fX5_takeAfter.2.1 20 = .ok (.aload_n 0, 1) := by decide +kernel
theorem dX5_takeAfter_21 : decode fX5_takeAfter.2.1 21 = .ok (.getfield 15, 3) := by decide +kernel
theorem dX5_takeAfter_24 : decode fX5_takeAfter.2.1 24 = .ok (.iconst 0, 1) := by decide +kernel
theorem dX5_takeAfter_25 : decode fX5_takeAfter.2.1 25 = .ok (.bipush 8, 2) := by decide +kernel
theorem dX5_takeAfter_27 : decode fX5_takeAfter.2.1 27 = .ok (.invokestatic 53, 3) := by decide +kernel
theorem dX5_takeAfter_30 : decode fX5_takeAfter.2.1 30 = .ok (.iconst 0, 1) := by decide +kernel
theorem dX5_takeAfter_31 : decode fX5_takeAfter.2.1 31 = .ok (.istore_n 2, 1) := by decide +kernel
theorem dX5_takeAfter_32 : decode fX5_takeAfter.2.1 32 = .ok (.iload_n 2, 1) := by decide +kernel
theorem dX5_takeAfter_33 : decode fX5_takeAfter.2.1 33 = .ok (.aload_n 1, 1) := by decide +kernel
theorem dX5_takeAfter_34 : decode fX5_takeAfter.2.1 34 = .ok (.getfield 59, 3) := by decide +kernel
theorem dX5_takeAfter_37 : decode fX5_takeAfter.2.1 37 = .ok (.if_icmp .ge 24, 3) := by decide +kernel
theorem dX5_takeAfter_40 : decode fX5_takeAfter.2.1 40 = .ok (.aload_n 0, 1) := by decide +kernel
theorem dX5_takeAfter_41 : decode fX5_takeAfter.2.1 41 = .ok (.getfield 20, 3) := by decide +kernel
theorem dX5_takeAfter_44 : decode fX5_takeAfter.2.1 44 = .ok (.iload_n 2, 1) := by decide +kernel
theorem dX5_takeAfter_45 : decode fX5_takeAfter.2.1 45 = .ok (.aaload, 1) := by decide +kernel
theorem dX5_takeAfter_46 : decode fX5_takeAfter.2.1 46 = .ok (.aload_n 1, 1) := by decide +kernel
theorem dX5_takeAfter_47 : decode fX5_takeAfter.2.1 47 = .ok (.getfield 20, 3) := by decide +kernel
theorem dX5_takeAfter_50 : decode fX5_takeAfter.2.1 50 = .ok (.iload_n 2, 1) := by decide +kernel
theorem dX5_takeAfter_51 : decode fX5_takeAfter.2.1 51 = .ok (.aaload, 1) := by decide +kernel
theorem dX5_takeAfter_52 : decode fX5_takeAfter.2.1 52 = .ok (.invokevirtual 62, 3) := by decide +kernel
theorem dX5_takeAfter_55 : decode fX5_takeAfter.2.1 55 = .ok (.iinc 2 1, 3) := by decide +kernel
theorem dX5_takeAfter_58 : decode fX5_takeAfter.2.1 58 = .ok (.goto (-26), 3) := by decide +kernel
theorem dX5_takeAfter_61 : decode fX5_takeAfter.2.1 61 = .ok (.aload_n 0, 1) := by decide +kernel
theorem dX5_takeAfter_62 : decode fX5_takeAfter.2.1 62 = .ok (.aload_n 1, 1) := by decide +kernel
theorem dX5_takeAfter_63 : decode fX5_takeAfter.2.1 63 = .ok (.getfield 59, 3) := by decide +kernel
theorem dX5_takeAfter_66 : decode fX5_takeAfter.2.1 66 = .ok (.putfield 59, 3) := by decide +kernel
theorem dX5_takeAfter_69 : decode fX5_takeAfter.2.1 69 = .ok (.aload_n 0, 1) := by decide +kernel
theorem dX5_takeAfter_70 : decode fX5_takeAfter.2.1 70 = .ok (.aload_n 1, 1) := by decide +kernel
theorem dX5_takeAfter_71 : decode fX5_takeAfter.2.1 71 = .ok (.getfield 66, 3) := by decide +kernel
theorem dX5_takeAfter_74 : decode fX5_takeAfter.2.1 74 = .ok (.putfield 66, 3) := by decide +kernel
theorem dX5_takeAfter_77 : decode fX5_takeAfter.2.1 77 = .ok (.aload_n 0, 1) := by decide +kernel
theorem dX5_takeAfter_78 : decode fX5_takeAfter.2.1 78 = .ok (.aload_n 1, 1) := by decide +kernel
theorem dX5_takeAfter_79 : decode fX5_takeAfter.2.1 79 = .ok (.getfield 24, 3) := by decide +kernel
theorem dX5_takeAfter_82 : decode fX5_takeAfter.2.1 82 = .ok (.putfield 24, 3) := by decide +kernel
theorem dX5_takeAfter_85 : decode fX5_takeAfter.2.1 85 = .ok (.aload_n 0, 1) := by decide +kernel
theorem dX5_takeAfter_86 : decode fX5_takeAfter.2.1 86 = .ok (.aload_n 1, 1) := by decide +kernel
theorem dX5_takeAfter_87 : decode fX5_takeAfter.2.1 87 = .ok (.getfield 69, 3) := by decide +kernel
theorem dX5_takeAfter_90 : decode fX5_takeAfter.2.1 90 = .ok (.putfield 69, 3) := by decide +kernel
theorem dX5_takeAfter_93 : decode fX5_takeAfter.2.1 93 = .ok (.aload_n 0, 1) := by decide +kernel
theorem dX5_takeAfter_94 : decode fX5_takeAfter.2.1 94 = .ok (.aload_n 1, 1) := by decide +kernel
theorem dX5_takeAfter_95 : decode fX5_takeAfter.2.1 95 = .ok (.getfield 28, 3) := by decide +kernel
theorem dX5_takeAfter_98 : decode fX5_takeAfter.2.1 98 = .ok (.putfield 28, 3) := by decide +kernel
theorem dX5_takeAfter_101 : decode fX5_takeAfter.2.1 101 = .ok (.aload_n 0, 1) := by decide +kernel
theorem dX5_takeAfter_102 : decode fX5_takeAfter.2.1 102 = .ok (.aload_n 1, 1) := by decide +kernel
theorem dX5_takeAfter_103 : decode fX5_takeAfter.2.1 103 = .ok (.getfield 72, 3) := by decide +kernel
theorem dX5_takeAfter_106 : decode fX5_takeAfter.2.1 106 = .ok (.putfield 72, 3) := by decide +kernel
theorem dX5_takeAfter_109 : decode fX5_takeAfter.2.1 109 = .ok (.aload_n 0, 1) := by decide +kernel
theorem dX5_takeAfter_110 : decode fX5_takeAfter.2.1 110 = .ok (.aload_n 1, 1) := by decide +kernel
theorem dX5_takeAfter_111 : decode fX5_takeAfter.2.1 111 = .ok (.getfield 75, 3) := by decide +kernel
theorem dX5_takeAfter_114 : decode fX5_takeAfter.2.1 114 = .ok (.putfield 75, 3) := by decide +kernel
theorem dX5_takeAfter_117 : decode fX5_takeAfter.2.1 117 = .ok (.aload_n 0, 1) := by decide +kernel
theorem dX5_takeAfter_118 : decode fX5_takeAfter.2.1 118 = .ok (.aload_n 1, 1) := by decide +kernel
theorem dX5_takeAfter_119 : decode fX5_takeAfter.2.1 119 = .ok (.getfield 78, 3) := by decide +kernel
theorem dX5_takeAfter_122 : decode fX5_takeAfter.2.1 122 = .ok (.putfield 78, 3) := by decide +kernel
theorem dX5_takeAfter_125 : decode fX5_takeAfter.2.1 125 = .ok (.aload_n 0, 1) := by decide +kernel
theorem dX5_takeAfter_126 : decode fX5_takeAfter.2.1 126 = .ok (.aload_n 1, 1) := by decide +kernel
theorem dX5_takeAfter_127 : decode fX5_takeAfter.2.1 127 = .ok (.getfield 31, 3) := by decide +kernel
theorem dX5_takeAfter_130 : decode fX5_takeAfter.2.1 130 = .ok (.putfield 31, 3) := by decide +kernel
theorem dX5_takeAfter_133 : decode fX5_takeAfter.2.1 133 = .ok (.iconst 0, 1) := by decide +kernel
theorem dX5_takeAfter_134 : decode fX5_takeAfter.2.1 134 = .ok (.istore_n 2, 1) := by decide +kernel
theorem dX5_takeAfter_135 : decode fX5_takeAfter.2.1 135 = .ok (.iload_n 2, 1) := by decide +kernel
theorem dX5_takeAfter_136 : decode fX5_takeAfter.2.1 136 = .ok (.bipush 14, 2) := by decide +kernel
theorem dX5_takeAfter_138 : decode fX5_takeAfter.2.1 138 = .ok (.if_icmp .ge 21, 3) := by decide +kernel
theorem dX5_takeAfter_141 : decode fX5_takeAfter.2.1 141 = .ok (.aload_n 0, 1) := by decide +kernel
theorem dX5_takeAfter_142 : decode fX5_takeAfter.2.1 142 = .ok (.getfield 36, 3) := by decide +kernel
theorem dX5_takeAfter_145 : decode fX5_takeAfter.2.1 145 = .ok (.iload_n 2, 1) := by decide +kernel
theorem dX5_takeAfter_146 : decode fX5_takeAfter.2.1 146 = .ok (.aload_n 1, 1) := by decide +kernel
theorem dX5_takeAfter_147 : decode fX5_takeAfter.2.1 147 = .ok (.getfield 36, 3) := by decide +kernel
theorem dX5_takeAfter_150 : decode fX5_takeAfter.2.1 150 = .ok (.iload_n 2, 1) := by decide +kernel
theorem dX5_takeAfter_151 : decode fX5_takeAfter.2.1 151 = .ok (.aaload, 1) := by decide +kernel
theorem dX5_takeAfter_152 : decode fX5_takeAfter.2.1 152 = .ok (.aastore, 1) := by decide +kernel
theorem dX5_takeAfter_153 : decode fX5_takeAfter.2.1 153 = .ok (.iinc 2 1, 3) := by decide +kernel
theorem dX5_takeAfter_156 : decode fX5_takeAfter.2.1 156 = .ok (.goto (-21), 3) := by decide +kernel
theorem dX5_takeAfter_159 : decode fX5_takeAfter.2.1 159 = .ok (.aload_n 0, 1) := by decide +kernel
theorem dX5_takeAfter_160 : decode fX5_takeAfter.2.1 160 = .ok (.aload_n 1, 1) := by decide +kernel
theorem dX5_takeAfter_161 : decode fX5_takeAfter.2.1 161 = .ok (.getfield 81, 3) := by decide +kernel
theorem dX5_takeAfter_164 : decode fX5_takeAfter.2.1 164 = .ok (.putfield 81, 3) := by decide +kernel
theorem dX5_takeAfter_167 : decode fX5_takeAfter.2.1 167 = .ok (.aload_n 1, 1) := by decide +kernel
theorem dX5_takeAfter_168 : decode fX5_takeAfter.2.1 168 = .ok (.getfield 40, 3) := by decide +kernel
theorem dX5_takeAfter_171 : decode fX5_takeAfter.2.1 171 = .ok (.iconst 0, 1) := by decide +kernel
theorem dX5_takeAfter_172 : decode fX5_takeAfter.2.1 172 = .ok (.aload_n 0, 1) := by decide +kernel
theorem dX5_takeAfter_173 : decode fX5_takeAfter.2.1 173 = .ok (.getfield 40, 3) := by decide +kernel
theorem dX5_takeAfter_176 : decode fX5_takeAfter.2.1 176 = .ok (.iconst 0, 1) := by decide +kernel
theorem dX5_takeAfter_177 : decode fX5_takeAfter.2.1 177 = .ok (.iconst 3, 1) := by decide +kernel
theorem dX5_takeAfter_178 : decode fX5_takeAfter.2.1 178 = .ok (.invokestatic 53, 3) := by decide +kernel
theorem dX5_takeAfter_181 : decode fX5_takeAfter.2.1 181 = .ok (.return_, 1) := by decide +kernel
set_option maxRecDepth 100000 in
set_option maxHeartbeats 4000000 in
theorem ok_X5_takeAfter {X : Xb} {S : Sg} {mi : Mem} {t u n : Nat} (hT : TwA S t) (hU : TwA S u) (hd : u + 17 ≤ t ∨ t + 17 ≤ u) (hn : mi u 3 = nI n) (hn8 : n ≤ 8) (hx : TxR S u) : Ok 1 0 0 fX5_takeAfter X [rf X t, rf X u] S mi (fun r S' m => r = none ∧ S' = cpS S t u 14 ∧ (∀ a, a < t ∨ t + 17 ≤ a → m a = mi a) ∧ eqOn (26 + 5 * n) (tv m t) (tv mi u) ∧ ∀ j, j < 3 → m (t + 5) j = mi (u + 5) j) := by
  refine Ok.go [some (rf X t), some (rf X u), none] (by decide) (by simp [Value.category]) (Nat.le_of_ble_eq_true rfl) rfl ?_
  obtain ⟨k_t, ⟨r_t_home, k_t_home⟩, ⟨r_t_price, k_t_price⟩, ⟨r_t_attics, k_t_attics⟩, ⟨r_t_texts, k_t_texts⟩, ⟨r_t_counting, k_t_counting⟩, ⟨r_t_names, k_t_names⟩, ⟨r_t_pile, k_t_pile⟩, ⟨r_t_views, k_t_views⟩, a_t⟩ := id hT
  obtain ⟨k_u, ⟨r_u_home, k_u_home⟩, ⟨r_u_price, k_u_price⟩, ⟨r_u_attics, k_u_attics⟩, ⟨r_u_texts, k_u_texts⟩, ⟨r_u_counting, k_u_counting⟩, ⟨r_u_names, k_u_names⟩, ⟨r_u_pile, k_u_pile⟩, ⟨r_u_views, k_u_views⟩, a_u⟩ := id hU
  have s159 : ∀ m, (∀ a, a < t ∨ t + 17 ≤ a → m a = mi a) → (∀ j, j < 8 → m (t + 1) j = mi (u + 1) j) → (∀ j, j < 8 → m (t + 2) j = mi (u + 2) j) → (∀ i, i < n → ∀ f, f < 5 → m (t + 9 + i) f = mi (u + 9 + i) f) → (∀ j, j < 10 → tvF j ≠ 13 → m t (tvF j) = mi u (tvF j)) → MW X fX5_takeAfter (rmOf 1 0 0) 0 0 159 [some (rf X t), some (rf X u), none] [] (cpS S t u 14) m (mQ X 0 0 (fun r S' m => r = none ∧ S' = cpS S t u 14 ∧ (∀ a, a < t ∨ t + 17 ≤ a → m a = mi a) ∧ eqOn (26 + 5 * n) (tv m t) (tv mi u) ∧ ∀ j, j < 3 → m (t + 5) j = mi (u + 5) j)) := by
    intro m hm h1 h2 h3 h4
    have hT2 := TwA.cp (u := u) (k := 14) hT k_t_texts
    have hU2 := TwA.cp (t := t) (u := u) (k := 14) hU k_t_texts
    obtain ⟨k_v, ⟨r_v_home, k_v_home⟩, ⟨r_v_price, k_v_price⟩, ⟨r_v_attics, k_v_attics⟩, ⟨r_v_texts, k_v_texts⟩, ⟨r_v_counting, k_v_counting⟩, ⟨r_v_names, k_v_names⟩, ⟨r_v_pile, k_v_pile⟩, ⟨r_v_views, k_v_views⟩, a_v⟩ := id hT2
    obtain ⟨k_w, ⟨r_w_home, k_w_home⟩, ⟨r_w_price, k_w_price⟩, ⟨r_w_attics, k_w_attics⟩, ⟨r_w_texts, k_w_texts⟩, ⟨r_w_counting, k_w_counting⟩, ⟨r_w_names, k_w_names⟩, ⟨r_w_pile, k_w_pile⟩, ⟨r_w_views, k_w_views⟩, a_w⟩ := id hU2
    have eu : m u = mi u := hm u (by omega)
    have eu5 : m (u + 5) = mi (u + 5) := hm (u + 5) (by omega)
    refine mw_aload_n dX5_takeAfter_159 rfl ?_
    refine mw_aload_n dX5_takeAfter_160 rfl ?_
    refine mw_geti dX5_takeAfter_161 fl_X5_81 rfl (by assumption) ?_
    rw [eu]
    refine mw_puti dX5_takeAfter_164 fl_X5_81 ft_5_13 rfl (rfl) rfl (by assumption) ?_
    refine mw_aload_n dX5_takeAfter_167 rfl ?_
    refine mw_getr dX5_takeAfter_168 fl_X5_40 rfl (by assumption) (by assumption) ?_
    refine mw_iconst (v := 0) dX5_takeAfter_171 (by decide) ?_
    refine mw_aload_n dX5_takeAfter_172 rfl ?_
    refine mw_getr dX5_takeAfter_173 fl_X5_40 rfl (by assumption) (by assumption) ?_
    refine mw_iconst (v := 0) dX5_takeAfter_176 (by decide) ?_
    refine mw_iconst (v := 3) dX5_takeAfter_177 (by decide) ?_
    refine mw_acopy dX5_takeAfter_178 ml_X5_53 (by assumption) (by assumption) (by decide) (by decide) (by decide) (by decide) (by decide) (Nat.le_of_ble_eq_true rfl) ⟨by decide, by decide⟩ ?_
    refine mw_vret dX5_takeAfter_181 rfl (by decide) (by decide) ⟨rfl, rfl, fun a ha => ?_, fun j hj => ?_, fun j hj => ?_⟩
    · funext b
      simp only [m_cpy, show a ≠ t + 5 by omega, false_and, if_false]
      rw [m_up_ne (show a ≠ t by omega)]; exact congrFun (hm a ha) b
    · have hc5 : ∀ a, a ≠ t + 5 → m_cpy (m_up m t 13 (mi u 13)) (u + 5) (t + 5) (Int32.toNatClampNeg 0) (Int32.toNatClampNeg 0) (Int32.toNatClampNeg 3) a = m_up m t 13 (mi u 13) a := fun a ha => by funext b; simp [m_cpy, ha]
      simp only [tv]
      by_cases c1 : j < 10
      · simp only [c1, if_true]
        rw [hc5 t (by omega)]
        by_cases c2 : tvF j = 13
        · rw [c2, m_up_at]
        · rw [m_up_of c2]; exact h4 j c1 c2
      · simp only [c1, if_false]
        by_cases c2 : j < 18
        · simp only [c2, if_true]; rw [hc5 (t + 1) (by omega), m_up_ne (by omega)]; exact h1 _ (by omega)
        · simp only [c2, if_false]
          by_cases c3 : j < 26
          · simp only [c3, if_true]; rw [hc5 (t + 2) (by omega), m_up_ne (by omega)]; exact h2 _ (by omega)
          · simp only [c3, if_false]; rw [hc5 _ (by omega), m_up_ne (by omega)]; exact h3 _ (by omega) _ (by omega)
    · have e3 : Int32.toNatClampNeg 3 = 3 := by decide
      have e0 : Int32.toNatClampNeg 0 = 0 := by decide
      simp only [m_cpy, e3, e0, true_and, Nat.zero_le, Nat.zero_add, hj, if_true, Nat.sub_zero]
      rw [m_up_ne (by omega), eu5]
  have s135 : ∀ m, (∀ a, a < t ∨ t + 17 ≤ a → m a = mi a) → (∀ j, j < 8 → m (t + 1) j = mi (u + 1) j) → (∀ j, j < 8 → m (t + 2) j = mi (u + 2) j) → (∀ i, i < n → ∀ f, f < 5 → m (t + 9 + i) f = mi (u + 9 + i) f) → (∀ j, j < 10 → tvF j ≠ 13 → m t (tvF j) = mi u (tvF j)) → MW X fX5_takeAfter (rmOf 1 0 0) 0 0 135 [some (rf X t), some (rf X u), some (.int (nI 0))] [] S m (mQ X 0 0 (fun r S' m => r = none ∧ S' = cpS S t u 14 ∧ (∀ a, a < t ∨ t + 17 ≤ a → m a = mi a) ∧ eqOn (26 + 5 * n) (tv m t) (tv mi u) ∧ ∀ j, j < 3 → m (t + 5) j = mi (u + 5) j)) := by
    intro m hm h1 h2 h3 h4
    have lp := mw_dn (P := fun k => MW X fX5_takeAfter (rmOf 1 0 0) 0 0 135 [some (rf X t), some (rf X u), some (.int (nI k))] [] (cpS S t u k) m (mQ X 0 0 (fun r S' m => r = none ∧ S' = cpS S t u 14 ∧ (∀ a, a < t ∨ t + 17 ≤ a → m a = mi a) ∧ eqOn (26 + 5 * n) (tv m t) (tv mi u) ∧ ∀ j, j < 3 → m (t + 5) j = mi (u + 5) j))) 14 (by
      refine mw_iload_n dX5_takeAfter_135 rfl ?_
      refine mw_bipush (v := 14) dX5_takeAfter_136 (by decide) ?_
      refine mw_icmp_ge (tgt := 159) dX5_takeAfter_138 (by decide) (fun h138 => ?_) (fun h138 => ?_)
      · skip
        exact MW.sub (by simp [lsub]) (s159 m hm h1 h2 h3 h4)
      · skip
        exact absurd (by decide) h138) (fun k hk ih => by
      have hv : (cpS S t u k).2.2 (u + 4) k = S.2.2 (u + 4) k := by simp [cpR, show u ≠ t by omega]
      have hT2 := TwA.cp (u := u) (k := k) hT k_t_texts
      have hU2 := TwA.cp (t := t) (u := u) (k := k) hU k_t_texts
      have hcp := cpR_s (mr := S.2.2) (k := k) (show t ≠ u by omega)
      refine mw_iload_n dX5_takeAfter_135 rfl ?_
      refine mw_bipush (v := 14) dX5_takeAfter_136 (by decide) ?_
      refine mw_icmp_ge (tgt := 159) dX5_takeAfter_138 (by decide) (fun h138 => ?_) (fun h138 => ?_)
      · skip
        exact absurd h138 (nI_ge (b := 14) (by omega) (by decide))
      · skip
        refine mw_aload_n dX5_takeAfter_141 rfl ?_
        refine mw_getr dX5_takeAfter_142 fl_X5_36 rfl (hT2.1) (hT2.2.2.2.2.1.1) ?_
        refine mw_iload_n dX5_takeAfter_145 rfl ?_
        refine mw_aload_n dX5_takeAfter_146 rfl ?_
        refine mw_getr dX5_takeAfter_147 fl_X5_36 rfl (hU2.1) (hU2.2.2.2.2.1.1) ?_
        refine mw_iload_n dX5_takeAfter_150 rfl ?_
        refine mw_aldv dX5_takeAfter_151 hU2.2.2.2.2.1.2 (by decide) (vp_in_nI (by omega) (by decide)) ?_
        rw [nI_clamp (by omega), hv]
        cases hp : S.2.2 (u + 4) k with
        | none =>
          refine mw_aastN dX5_takeAfter_152 hT2.2.2.2.2.1.2 (vp_in_nI (by omega) (by decide)) ?_
          rw [nI_clamp (by omega)]
          refine mw_iincK (k := k) dX5_takeAfter_153 rfl rfl (by decide) ?_
          refine mw_goto (tgt := 135) dX5_takeAfter_156 (by decide) ?_
          rw [hp] at hcp
          simp only [hcp]
          exact MW.sub (by simp [lsub]) ih
        | some p =>
          refine mw_aast (t0 := 6) dX5_takeAfter_152 hT2.2.2.2.2.1.2 (hx k hk p hp) (by simp [aTy]) (vp_in_nI (by omega) (by decide)) ?_
          rw [nI_clamp (by omega)]
          refine mw_iincK (k := k) dX5_takeAfter_153 rfl rfl (by decide) ?_
          refine mw_goto (tgt := 135) dX5_takeAfter_156 (by decide) ?_
          rw [hp] at hcp
          simp only [hcp]
          exact MW.sub (by simp [lsub]) ih)
    have e0 : cpS S t u 0 = S := by simp only [cpS, cpR_0]
    rw [e0] at lp
    exact lp
  have s61 : ∀ m, (∀ a, a < t ∨ t + 17 ≤ a → m a = mi a) → (∀ j, j < 8 → m (t + 1) j = mi (u + 1) j) → (∀ j, j < 8 → m (t + 2) j = mi (u + 2) j) → (∀ i, i < n → ∀ f, f < 5 → m (t + 9 + i) f = mi (u + 9 + i) f) → MW X fX5_takeAfter (rmOf 1 0 0) 0 0 61 [some (rf X t), some (rf X u), none] [] S m (mQ X 0 0 (fun r S' m => r = none ∧ S' = cpS S t u 14 ∧ (∀ a, a < t ∨ t + 17 ≤ a → m a = mi a) ∧ eqOn (26 + 5 * n) (tv m t) (tv mi u) ∧ ∀ j, j < 3 → m (t + 5) j = mi (u + 5) j)) := by
    intro m hm h1 h2 h3
    have eu : m u = mi u := hm u (by omega)
    have nut : u ≠ t := by omega
    refine mw_aload_n dX5_takeAfter_61 rfl ?_
    refine mw_aload_n dX5_takeAfter_62 rfl ?_
    refine mw_geti dX5_takeAfter_63 fl_X5_59 rfl (by assumption) ?_
    refine mw_puti dX5_takeAfter_66 fl_X5_59 ft_5_3 rfl (rfl) rfl (by assumption) ?_
    refine mw_aload_n dX5_takeAfter_69 rfl ?_
    refine mw_aload_n dX5_takeAfter_70 rfl ?_
    refine mw_geti dX5_takeAfter_71 fl_X5_66 rfl (by assumption) ?_
    refine mw_puti dX5_takeAfter_74 fl_X5_66 ft_5_4 rfl (rfl) rfl (by assumption) ?_
    refine mw_aload_n dX5_takeAfter_77 rfl ?_
    refine mw_aload_n dX5_takeAfter_78 rfl ?_
    refine mw_geti dX5_takeAfter_79 fl_X5_24 rfl (by assumption) ?_
    refine mw_puti dX5_takeAfter_82 fl_X5_24 ft_5_5 rfl (rfl) rfl (by assumption) ?_
    refine mw_aload_n dX5_takeAfter_85 rfl ?_
    refine mw_aload_n dX5_takeAfter_86 rfl ?_
    refine mw_geti dX5_takeAfter_87 fl_X5_69 rfl (by assumption) ?_
    refine mw_puti dX5_takeAfter_90 fl_X5_69 ft_5_6 rfl (rfl) rfl (by assumption) ?_
    refine mw_aload_n dX5_takeAfter_93 rfl ?_
    refine mw_aload_n dX5_takeAfter_94 rfl ?_
    refine mw_geti dX5_takeAfter_95 fl_X5_28 rfl (by assumption) ?_
    refine mw_puti dX5_takeAfter_98 fl_X5_28 ft_5_7 rfl (rfl) rfl (by assumption) ?_
    refine mw_aload_n dX5_takeAfter_101 rfl ?_
    refine mw_aload_n dX5_takeAfter_102 rfl ?_
    refine mw_geti dX5_takeAfter_103 fl_X5_72 rfl (by assumption) ?_
    refine mw_puti dX5_takeAfter_106 fl_X5_72 ft_5_8 rfl (rfl) rfl (by assumption) ?_
    refine mw_aload_n dX5_takeAfter_109 rfl ?_
    refine mw_aload_n dX5_takeAfter_110 rfl ?_
    refine mw_geti dX5_takeAfter_111 fl_X5_75 rfl (by assumption) ?_
    refine mw_puti dX5_takeAfter_114 fl_X5_75 ft_5_9 rfl (rfl) rfl (by assumption) ?_
    refine mw_aload_n dX5_takeAfter_117 rfl ?_
    refine mw_aload_n dX5_takeAfter_118 rfl ?_
    refine mw_geti dX5_takeAfter_119 fl_X5_78 rfl (by assumption) ?_
    refine mw_puti dX5_takeAfter_122 fl_X5_78 ft_5_10 rfl (rfl) rfl (by assumption) ?_
    refine mw_aload_n dX5_takeAfter_125 rfl ?_
    refine mw_aload_n dX5_takeAfter_126 rfl ?_
    refine mw_geti dX5_takeAfter_127 fl_X5_31 rfl (by assumption) ?_
    refine mw_puti dX5_takeAfter_130 fl_X5_31 ft_5_11 rfl (rfl) rfl (by assumption) ?_
    refine mw_iconst (v := 0) dX5_takeAfter_133 (by decide) ?_
    refine mw_istN 2 dX5_takeAfter_134 rfl (by decide) ?_
    refine MW.sub (by simp [lsub, nI_0]) (s135 _ (fun a ha => by simp only [m_up_ne (show a ≠ t by omega)]; exact hm a ha) (fun j hj => by simp only [m_up_ne (show t + 1 ≠ t by omega)]; exact h1 j hj) (fun j hj => by simp only [m_up_ne (show t + 2 ≠ t by omega)]; exact h2 j hj) (fun i hi f hf => by simp only [m_up_ne (show t + 9 + i ≠ t by omega)]; exact h3 i hi f hf) (fun j hj h13 => ?_))
    simp only [m_up_ne nut, eu]
    have : j = 0 ∨ j = 1 ∨ j = 2 ∨ j = 3 ∨ j = 4 ∨ j = 5 ∨ j = 6 ∨ j = 7 ∨ j = 8 ∨ j = 9 := by omega
    rcases this with rfl | rfl | rfl | rfl | rfl | rfl | rfl | rfl | rfl | rfl <;> first | exact absurd rfl h13 | simp [m_up, tvF]
  have m1e : ∀ a, a ≠ t + 1 → a ≠ t + 2 → m_cpy (m_cpy mi (u + 1) (t + 1) 0 0 8) (u + 2) (t + 2) 0 0 8 a = mi a := fun a g1 g2 => by funext j; simp [m_cpy, g1, g2]
  have lp := mw_dn (P := fun k => ∀ m, (∀ a, a < t ∨ t + 17 ≤ a → m a = mi a) → (∀ j, j < 8 → m (t + 1) j = mi (u + 1) j) → (∀ j, j < 8 → m (t + 2) j = mi (u + 2) j) → (∀ i, i < k → ∀ f, f < 5 → m (t + 9 + i) f = mi (u + 9 + i) f) → MW X fX5_takeAfter (rmOf 1 0 0) 0 0 32 [some (rf X t), some (rf X u), some (.int (nI k))] [] S m (mQ X 0 0 (fun r S' m => r = none ∧ S' = cpS S t u 14 ∧ (∀ a, a < t ∨ t + 17 ≤ a → m a = mi a) ∧ eqOn (26 + 5 * n) (tv m t) (tv mi u) ∧ ∀ j, j < 3 → m (t + 5) j = mi (u + 5) j))) n (by
    intro m hm h1 h2 h3
    have ec : m u 3 = nI n := by rw [hm u (by omega)]; exact hn
    refine mw_iload_n dX5_takeAfter_32 rfl ?_
    refine mw_aload_n dX5_takeAfter_33 rfl ?_
    refine mw_geti dX5_takeAfter_34 fl_X5_59 rfl (by assumption) ?_
    rw [ec]
    refine mw_icmp_ge (tgt := 61) dX5_takeAfter_37 (by decide) (fun h37 => ?_) (fun h37 => ?_)
    · skip
      exact MW.sub (by simp [lsub]) (s61 m hm h1 h2 h3)
    · skip
      exact absurd (Int32.le_refl _) h37) (fun k hk ih => by
    intro m hm h1 h2 h3
    have ec : m u 3 = nI n := by rw [hm u (by omega)]; exact hn
    have hka := (a_t k (by omega)).2
    have hkb := (a_u k (by omega)).2
    have eb : m (u + 9 + k) = mi (u + 9 + k) := hm _ (by omega)
    refine mw_iload_n dX5_takeAfter_32 rfl ?_
    refine mw_aload_n dX5_takeAfter_33 rfl ?_
    refine mw_geti dX5_takeAfter_34 fl_X5_59 rfl (by assumption) ?_
    rw [ec]
    refine mw_icmp_ge (tgt := 61) dX5_takeAfter_37 (by decide) (fun h37 => ?_) (fun h37 => ?_)
    · skip
      exact absurd h37 (nI_ge hk (by omega))
    · skip
      refine mw_aload_n dX5_takeAfter_40 rfl ?_
      refine mw_getr dX5_takeAfter_41 fl_X5_20 rfl (by assumption) (by assumption) ?_
      refine mw_iload_n dX5_takeAfter_44 rfl ?_
      refine mw_aldK (k := k) dX5_takeAfter_45 (by assumption) (by decide) (rfl) (by omega) (by decide) ((a_t k (by omega)).1) ?_
      refine mw_aload_n dX5_takeAfter_46 rfl ?_
      refine mw_getr dX5_takeAfter_47 fl_X5_20 rfl (by assumption) (by assumption) ?_
      refine mw_iload_n dX5_takeAfter_50 rfl ?_
      refine mw_aldK (k := k) dX5_takeAfter_51 (by assumption) (by decide) (rfl) (by omega) (by decide) ((a_u k (by omega)).1) ?_
      refine mw_cVV (g := fX0_takeAfter) dX5_takeAfter_52 ml_X5_62 mfX0_takeAfter (ok_X0_takeAfter hka hkb (by omega)) (hka) rfl rfl (Nat.le_of_ble_eq_true rfl) ⟨by decide, by decide⟩ ⟨by decide, by decide⟩ ?_
      refine mw_iincK (k := k) dX5_takeAfter_55 rfl rfl (by decide) ?_
      refine mw_goto (tgt := 32) dX5_takeAfter_58 (by decide) ?_
      refine MW.sub (by simp [lsub]) (ih _ (fun a ha => by simp only [m_up_ne (show a ≠ t + 9 + k by omega)]; exact hm a ha) (fun j hj => by simp only [m_up_ne (show t + 1 ≠ t + 9 + k by omega)]; exact h1 j hj) (fun j hj => by simp only [m_up_ne (show t + 2 ≠ t + 9 + k by omega)]; exact h2 j hj) (fun i hi f hf => ?_))
      by_cases c : i = k
      · subst c
        rw [eb]
        have : f = 0 ∨ f = 1 ∨ f = 2 ∨ f = 3 ∨ f = 4 := by omega
        rcases this with rfl | rfl | rfl | rfl | rfl <;> simp [m_up]
      · simp only [m_up_ne (show t + 9 + i ≠ t + 9 + k by omega)]; exact h3 i (by omega) f hf)
  refine mw_aload_n dX5_takeAfter_0 rfl ?_
  refine mw_getr dX5_takeAfter_1 fl_X5_9 rfl (by assumption) (by assumption) ?_
  refine mw_iconst (v := 0) dX5_takeAfter_4 (by decide) ?_
  refine mw_aload_n dX5_takeAfter_5 rfl ?_
  refine mw_getr dX5_takeAfter_6 fl_X5_9 rfl (by assumption) (by assumption) ?_
  refine mw_iconst (v := 0) dX5_takeAfter_9 (by decide) ?_
  refine mw_bipush (v := 8) dX5_takeAfter_10 (by decide) ?_
  refine mw_acopy dX5_takeAfter_12 ml_X5_53 (by assumption) (by assumption) (by decide) (by decide) (by decide) (by decide) (by decide) (Nat.le_of_ble_eq_true rfl) ⟨by decide, by decide⟩ ?_
  refine mw_aload_n dX5_takeAfter_15 rfl ?_
  refine mw_getr dX5_takeAfter_16 fl_X5_15 rfl (by assumption) (by assumption) ?_
  refine mw_iconst (v := 0) dX5_takeAfter_19 (by decide) ?_
  refine mw_aload_n dX5_takeAfter_20 rfl ?_
  refine mw_getr dX5_takeAfter_21 fl_X5_15 rfl (by assumption) (by assumption) ?_
  refine mw_iconst (v := 0) dX5_takeAfter_24 (by decide) ?_
  refine mw_bipush (v := 8) dX5_takeAfter_25 (by decide) ?_
  refine mw_acopy dX5_takeAfter_27 ml_X5_53 (by assumption) (by assumption) (by decide) (by decide) (by decide) (by decide) (by decide) (Nat.le_of_ble_eq_true rfl) ⟨by decide, by decide⟩ ?_
  refine mw_iconst (v := 0) dX5_takeAfter_30 (by decide) ?_
  refine mw_istN 2 dX5_takeAfter_31 rfl (by decide) ?_
  refine MW.sub (by simp [lsub, nI_0]) (lp _ (fun a ha => m1e a (by omega) (by omega)) (fun j hj => ?_) (fun j hj => ?_) (fun i hi => absurd hi (Nat.not_lt_zero i)))
  · simp [m_cpy, hj]
  · simp only [m_cpy]; simp [hj, show u + 2 ≠ t + 1 by omega]
end
section
/-! the object's calls: helpers, attics -/
abbrev BADi : Int32 := -1000000001
abbrev FULLi : Int32 := -1000000003
abbrev NONEi : Int32 := -1000000005
abbrev KINDi : Int32 := -1000000012
theorem dX6_isBearing_0 : decode fX6_isBearing.2.1 0 = .ok (.iload_n 0, 1) := by decide +kernel
theorem dX6_isBearing_1 : decode fX6_isBearing.2.1 1 = .ok (.iconst 0, 1) := by decide +kernel
theorem dX6_isBearing_2 : decode fX6_isBearing.2.1 2 = .ok (.bipush 23, 2) := by decide +kernel
theorem dX6_isBearing_4 : decode fX6_isBearing.2.1 4 = .ok (.invokestatic 50, 3) := by decide +kernel
theorem dX6_isBearing_7 : decode fX6_isBearing.2.1 7 = .ok (.ireturn, 1) := by decide +kernel
set_option maxRecDepth 100000 in
set_option maxHeartbeats 4000000 in
theorem ok_X6_isBearing {X : Xb} {S : Sg} {mi : Mem} {v : Int32} : OkI 1 fX6_isBearing X [.int v] S mi (b2i (0 ≤ v ∧ v ≤ 23)) mi := by
  refine Ok.go [some (.int v)] (by decide) (by simp [Value.category]) (Nat.le_of_ble_eq_true rfl) rfl ?_
  refine mw_iload_n dX6_isBearing_0 rfl ?_
  refine mw_iconst (v := 0) dX6_isBearing_1 (by decide) ?_
  refine mw_bipush (v := 23) dX6_isBearing_2 (by decide) ?_
  refine mw_cSI (g := fX6_within) dX6_isBearing_4 ml_X6_50 mfX6_within (ok_X6_within) rfl rfl (Nat.le_of_ble_eq_true rfl) ⟨by decide, by decide⟩ ⟨by decide, by decide⟩ ?_
  exact mw_bret dX6_isBearing_7 rfl (by first | exact Or.inl rfl | exact Or.inr rfl | exact b2i_01) (by decide) (by decide) (⟨rfl, rfl, rfl⟩)
theorem dX6_isStar_0 : decode fX6_isStar.2.1 0 = .ok (.iload_n 0, 1) := by decide +kernel
theorem dX6_isStar_1 : decode fX6_isStar.2.1 1 = .ok (.iconst 0, 1) := by decide +kernel
theorem dX6_isStar_2 : decode fX6_isStar.2.1 2 = .ok (.bipush 7, 2) := by decide +kernel
theorem dX6_isStar_4 : decode fX6_isStar.2.1 4 = .ok (.invokestatic 50, 3) := by decide +kernel
theorem dX6_isStar_7 : decode fX6_isStar.2.1 7 = .ok (.ireturn, 1) := by decide +kernel
set_option maxRecDepth 100000 in
set_option maxHeartbeats 4000000 in
theorem ok_X6_isStar {X : Xb} {S : Sg} {mi : Mem} {v : Int32} : OkI 1 fX6_isStar X [.int v] S mi (b2i (0 ≤ v ∧ v ≤ 7)) mi := by
  refine Ok.go [some (.int v)] (by decide) (by simp [Value.category]) (Nat.le_of_ble_eq_true rfl) rfl ?_
  refine mw_iload_n dX6_isStar_0 rfl ?_
  refine mw_iconst (v := 0) dX6_isStar_1 (by decide) ?_
  refine mw_bipush (v := 7) dX6_isStar_2 (by decide) ?_
  refine mw_cSI (g := fX6_within) dX6_isStar_4 ml_X6_50 mfX6_within (ok_X6_within) rfl rfl (Nat.le_of_ble_eq_true rfl) ⟨by decide, by decide⟩ ⟨by decide, by decide⟩ ?_
  exact mw_bret dX6_isStar_7 rfl (by first | exact Or.inl rfl | exact Or.inr rfl | exact b2i_01) (by decide) (by decide) (⟨rfl, rfl, rfl⟩)
theorem dX6_isSheet_0 : decode fX6_isSheet.2.1 0 = .ok (.iload_n 0, 1) := by decide +kernel
theorem dX6_isSheet_1 : decode fX6_isSheet.2.1 1 = .ok (.iconst 0, 1) := by decide +kernel
theorem dX6_isSheet_2 : decode fX6_isSheet.2.1 2 = .ok (.iconst 3, 1) := by decide +kernel
theorem dX6_isSheet_3 : decode fX6_isSheet.2.1 3 = .ok (.invokestatic 50, 3) := by decide +kernel
theorem dX6_isSheet_6 : decode fX6_isSheet.2.1 6 = .ok (.ireturn, 1) := by decide +kernel
set_option maxRecDepth 100000 in
set_option maxHeartbeats 4000000 in
theorem ok_X6_isSheet {X : Xb} {S : Sg} {mi : Mem} {v : Int32} : OkI 1 fX6_isSheet X [.int v] S mi (b2i (0 ≤ v ∧ v ≤ 3)) mi := by
  refine Ok.go [some (.int v)] (by decide) (by simp [Value.category]) (Nat.le_of_ble_eq_true rfl) rfl ?_
  refine mw_iload_n dX6_isSheet_0 rfl ?_
  refine mw_iconst (v := 0) dX6_isSheet_1 (by decide) ?_
  refine mw_iconst (v := 3) dX6_isSheet_2 (by decide) ?_
  refine mw_cSI (g := fX6_within) dX6_isSheet_3 ml_X6_50 mfX6_within (ok_X6_within) rfl rfl (Nat.le_of_ble_eq_true rfl) ⟨by decide, by decide⟩ ⟨by decide, by decide⟩ ?_
  exact mw_bret dX6_isSheet_6 rfl (by first | exact Or.inl rfl | exact Or.inr rfl | exact b2i_01) (by decide) (by decide) (⟨rfl, rfl, rfl⟩)
theorem dX6_isSlot_0 : decode fX6_isSlot.2.1 0 = .ok (.iload_n 0, 1) := by decide +kernel
theorem dX6_isSlot_1 : decode fX6_isSlot.2.1 1 = .ok (.iconst 0, 1) := by decide +kernel
theorem dX6_isSlot_2 : decode fX6_isSlot.2.1 2 = .ok (.iconst 4, 1) := by decide +kernel
theorem dX6_isSlot_3 : decode fX6_isSlot.2.1 3 = .ok (.invokestatic 50, 3) := by decide +kernel
theorem dX6_isSlot_6 : decode fX6_isSlot.2.1 6 = .ok (.ireturn, 1) := by decide +kernel
set_option maxRecDepth 100000 in
set_option maxHeartbeats 4000000 in
theorem ok_X6_isSlot {X : Xb} {S : Sg} {mi : Mem} {v : Int32} : OkI 1 fX6_isSlot X [.int v] S mi (b2i (0 ≤ v ∧ v ≤ 4)) mi := by
  refine Ok.go [some (.int v)] (by decide) (by simp [Value.category]) (Nat.le_of_ble_eq_true rfl) rfl ?_
  refine mw_iload_n dX6_isSlot_0 rfl ?_
  refine mw_iconst (v := 0) dX6_isSlot_1 (by decide) ?_
  refine mw_iconst (v := 4) dX6_isSlot_2 (by decide) ?_
  refine mw_cSI (g := fX6_within) dX6_isSlot_3 ml_X6_50 mfX6_within (ok_X6_within) rfl rfl (Nat.le_of_ble_eq_true rfl) ⟨by decide, by decide⟩ ⟨by decide, by decide⟩ ?_
  exact mw_bret dX6_isSlot_6 rfl (by first | exact Or.inl rfl | exact Or.inr rfl | exact b2i_01) (by decide) (by decide) (⟨rfl, rfl, rfl⟩)
theorem dX6_isAttic_0 : decode fX6_isAttic.2.1 0 = .ok (.iload_n 1, 1) := by decide +kernel
theorem dX6_isAttic_1 : decode fX6_isAttic.2.1 1 = .ok (.iconst 0, 1) := by decide +kernel
theorem dX6_isAttic_2 : decode fX6_isAttic.2.1 2 = .ok (.aload_n 0, 1) := by decide +kernel
theorem dX6_isAttic_3 : decode fX6_isAttic.2.1 3 = .ok (.getfield 10, 3) := by decide +kernel
theorem dX6_isAttic_6 : decode fX6_isAttic.2.1 6 = .ok (.getfield 130, 3) := by decide +kernel
theorem dX6_isAttic_9 : decode fX6_isAttic.2.1 9 = .ok (.iconst 1, 1) := by decide +kernel
theorem dX6_isAttic_10 : decode fX6_isAttic.2.1 10 = .ok (.isub, 1) := by decide +kernel
theorem dX6_isAttic_11 : decode fX6_isAttic.2.1 11 = .ok (.invokestatic 50, 3) := by decide +kernel
theorem dX6_isAttic_14 : decode fX6_isAttic.2.1 14 = .ok (.ireturn, 1) := by decide +kernel
set_option maxRecDepth 100000 in
set_option maxHeartbeats 4000000 in
theorem ok_X6_isAttic {X : Xb} {S : Sg} {mi : Mem} {x n : Nat} {v : Int32} (hX : AsA S x) (hn : mi (x + 1) 3 = nI n) : OkI 1 fX6_isAttic X [rf X x, .int v] S mi (b2i (0 ≤ v ∧ v ≤ nI n - 1)) mi := by
  refine Ok.go [some (rf X x), some (.int v)] (by decide) (by simp [Value.category]) (Nat.le_of_ble_eq_true rfl) rfl ?_
  obtain ⟨k_x, ⟨r_x_now, t_now⟩, ⟨r_x_thought, t_thought⟩, ⟨r_x_image, t_image⟩, ⟨r_x_tape, t_tape⟩, ⟨r_x_sheets, k_x_sheets⟩, ⟨r_x_slots, k_x_slots⟩, ⟨r_x_waiting, k_x_waiting⟩, ⟨r_x_diff, k_x_diff⟩, a_sheets, a_slots⟩ := id hX
  have k_n := t_now.1
  refine mw_iload_n dX6_isAttic_0 rfl ?_
  refine mw_iconst (v := 0) dX6_isAttic_1 (by decide) ?_
  refine mw_aload_n dX6_isAttic_2 rfl ?_
  refine mw_getr dX6_isAttic_3 fl_X6_10 rfl (by assumption) (by assumption) ?_
  refine mw_geti dX6_isAttic_6 fl_X6_130 rfl (by assumption) ?_
  rw [hn]
  refine mw_iconst (v := 1) dX6_isAttic_9 (by decide) ?_
  refine mw_isub dX6_isAttic_10 ?_
  refine mw_cSI (g := fX6_within) dX6_isAttic_11 ml_X6_50 mfX6_within (ok_X6_within) rfl rfl (Nat.le_of_ble_eq_true rfl) ⟨by decide, by decide⟩ ⟨by decide, by decide⟩ ?_
  exact mw_bret dX6_isAttic_14 rfl (by first | exact Or.inl rfl | exact Or.inr rfl | exact b2i_01) (by decide) (by decide) (⟨rfl, rfl, rfl⟩)
theorem inAt {v : Int32} {n : Nat} (h : 0 ≤ v ∧ v ≤ nI n - 1) (hn : n ≤ 8) : ∃ a, a < n ∧ v = nI a := by
  have h0 : ¬ v < 0 := Int32.not_lt.mpr h.1
  obtain ⟨j, hj, rfl⟩ := nI_of h0
  by_cases c : n = 0
  · subst c
    exact absurd h.2 (by have e : nI 0 - 1 = -1 := by decide
                         rw [e]
                         exact fun q => absurd (Int32.le_trans h.1 q) (by decide))
  · rw [nI_sub1 (by omega)] at h
    exact ⟨j, by have := (nI_leI hj (by omega)).mp h.2; omega, rfl⟩
theorem atIn {a n : Nat} (h : a < n) (hn : n ≤ 8) : 0 ≤ nI a ∧ nI a ≤ nI n - 1 := by
  rw [nI_sub1 (by omega)]
  exact ⟨nI_pos' (by omega), nI_le (by omega) (by omega)⟩
def isoB (k o : Int32) : Bool := decide (o = k) || (decide (o = 0) && !decide (k = 0)) || (decide (k = 3) && decide (o = 1)) || (decide (k = 4) && decide (o = 2))
def isoP (c : Nat) (o : Int32) : Prop := o = nI c ∨ (o = 0 ∧ c ≠ 0) ∨ (c = 3 ∧ o = 1) ∨ (c = 4 ∧ o = 2)
theorem isoB_iff {c : Nat} {o : Int32} (hc : c < 6) : isoB (nI c) o = true ↔ isoP c o := by
  have e0 : nI c = 0 ↔ c = 0 := nI_eq (b := 0) (by omega) (by decide)
  have e3 : nI c = 3 ↔ c = 3 := nI_eq (b := 3) (by omega) (by decide)
  have e4 : nI c = 4 ↔ c = 4 := nI_eq (b := 4) (by omega) (by decide)
  simp only [isoB, isoP, Bool.or_eq_true, Bool.and_eq_true, decide_eq_true_eq, Bool.not_eq_true', decide_eq_false_iff_not, e0, e3, e4]
  grind
theorem dX0_isOf_0 : decode fX0_isOf.2.1 0 = .ok (.aload_n 0, 1) := by decide +kernel
theorem dX0_isOf_1 : decode fX0_isOf.2.1 1 = .ok (.getfield 9, 3) := by decide +kernel
theorem dX0_isOf_4 : decode fX0_isOf.2.1 4 = .ok (.istore_n 2, 1) := by decide +kernel
theorem dX0_isOf_5 : decode fX0_isOf.2.1 5 = .ok (.iconst 0, 1) := by decide +kernel
theorem dX0_isOf_6 : decode fX0_isOf.2.1 6 = .ok (.istore_n 3, 1) := by decide +kernel
theorem dX0_isOf_7 : decode fX0_isOf.2.1 7 = .ok (.iload_n 3, 1) := by decide +kernel
theorem dX0_isOf_8 : decode fX0_isOf.2.1 8 = .ok (.bipush 6, 2) := by decide +kernel
theorem dX0_isOf_10 : decode fX0_isOf.2.1 10 = .ok (.if_icmp .ge 31, 3) := by decide +kernel
theorem dX0_isOf_13 : decode fX0_isOf.2.1 13 = .ok (.iload_n 2, 1) := by decide +kernel
theorem dX0_isOf_14 : decode fX0_isOf.2.1 14 = .ok (.iconst 0, 1) := by decide +kernel
theorem dX0_isOf_15 : decode fX0_isOf.2.1 15 = .ok (.iconst 5, 1) := by decide +kernel
theorem dX0_isOf_16 : decode fX0_isOf.2.1 16 = .ok (.invokestatic 27, 3) := by decide +kernel
theorem dX0_isOf_19 : decode fX0_isOf.2.1 19 = .ok (.ifCond .eq 22, 3) := by decide +kernel
theorem dX0_isOf_22 : decode fX0_isOf.2.1 22 = .ok (.iload_n 2, 1) := by decide +kernel
theorem dX0_isOf_23 : decode fX0_isOf.2.1 23 = .ok (.iload_n 1, 1) := by decide +kernel
theorem dX0_isOf_24 : decode fX0_isOf.2.1 24 = .ok (.if_icmp .ne 5, 3) := by decide +kernel
theorem dX0_isOf_27 : decode fX0_isOf.2.1 27 = .ok (.iconst 1, 1) := by decide +kernel
theorem dX0_isOf_28 : decode fX0_isOf.2.1 28 = .ok (.ireturn, 1) := by decide +kernel
theorem dX0_isOf_29 : decode fX0_isOf.2.1 29 = .ok (.getstatic 31, 3) := by decide +kernel
theorem dX0_isOf_32 : decode fX0_isOf.2.1 32 = .ok (.iload_n 2, 1) := by decide +kernel
theorem dX0_isOf_33 : decode fX0_isOf.2.1 33 = .ok (.iaload, 1) := by decide +kernel
theorem dX0_isOf_34 : decode fX0_isOf.2.1 34 = .ok (.istore_n 2, 1) := by decide +kernel
theorem dX0_isOf_35 : decode fX0_isOf.2.1 35 = .ok (.iinc 3 1, 3) := by decide +kernel
theorem dX0_isOf_38 : decode fX0_isOf.2.1 38 = .ok (.goto (-31), 3) := by decide +kernel
theorem dX0_isOf_41 : decode fX0_isOf.2.1 41 = .ok (.iconst 0, 1) := by decide +kernel
theorem dX0_isOf_42 : decode fX0_isOf.2.1 42 = .ok (.ireturn, 1) := by decide +kernel
set_option maxRecDepth 100000 in
set_option maxHeartbeats 4000000 in
theorem ok_X0_isOf {X : Xb} {S : Sg} {mi : Mem} {a c : Nat} {o : Int32} {R : Bool} (ha : Kd S a 0 0) (hc : mi a 0 = nI c) (hc6 : c < 6) (hR : R = true ↔ isoP c o) : OkI 1 fX0_isOf X [rf X a, .int o] S mi (b2i (R = true)) mi := by
  refine Ok.go [some (rf X a), some (.int o), none, none] (by decide) (by simp [Value.category]) (Nat.le_of_ble_eq_true rfl) rfl ?_
  have m1 : ∀ i, i < 6 → R = false → MW X fX0_isOf (rmOf 1 0 0) 0 0 7 [some (rf X a), some (.int o), some (.int (-1)), some (.int (nI i))] [] S mi (mQ X 0 0 (pI (b2i (R = true)) S mi)) := by
    intro i hi hr
    refine mw_iload_n dX0_isOf_7 rfl ?_
    refine mw_bipush (v := 6) dX0_isOf_8 (by decide) ?_
    refine mw_icmp_ge (tgt := 41) dX0_isOf_10 (by decide) (fun h10 => ?_) (fun h10 => ?_)
    · skip
      refine mw_iconst (v := 0) dX0_isOf_41 (by decide) ?_
      exact mw_bret dX0_isOf_42 rfl (by first | exact Or.inl rfl | exact Or.inr rfl | exact b2i_01) (by decide) (by decide) (⟨by simp [hr, b2i], rfl, rfl⟩)
    · skip
      refine mw_iload_n dX0_isOf_13 rfl ?_
      refine mw_iconst (v := 0) dX0_isOf_14 (by decide) ?_
      refine mw_iconst (v := 5) dX0_isOf_15 (by decide) ?_
      refine mw_cSNI (g := fX6_within) dX0_isOf_16 nl_X0_27 mfX6_within (ok_X6_within) rfl rfl (Nat.le_of_ble_eq_true rfl) ⟨by decide, by decide⟩ ⟨by decide, by decide⟩ ?_
      refine mw_if_eqB (tgt := 41) dX0_isOf_19 (by decide) (fun h19 => ?_) (fun h19 => ?_)
      · skip
        refine mw_iconst (v := 0) dX0_isOf_41 (by decide) ?_
        exact mw_bret dX0_isOf_42 rfl (by first | exact Or.inl rfl | exact Or.inr rfl | exact b2i_01) (by decide) (by decide) (⟨by simp [hr, b2i], rfl, rfl⟩)
      · skip
        exact absurd h19.1 (by decide)
  have st : ∀ c i, c < 6 → i < 6 → (o = nI c → R = true) → (o ≠ nI c → ∀ v, kaF c = .int v → MW X fX0_isOf (rmOf 1 0 0) 0 0 7 [some (rf X a), some (.int o), some (.int v), some (.int (nI (i + 1)))] [] S mi (mQ X 0 0 (pI (b2i (R = true)) S mi))) → MW X fX0_isOf (rmOf 1 0 0) 0 0 7 [some (rf X a), some (.int o), some (.int (nI c)), some (.int (nI i))] [] S mi (mQ X 0 0 (pI (b2i (R = true)) S mi)) := by
    intro c i hc hi h1 h2
    refine mw_iload_n dX0_isOf_7 rfl ?_
    refine mw_bipush (v := 6) dX0_isOf_8 (by decide) ?_
    refine mw_icmp_ge (tgt := 41) dX0_isOf_10 (by decide) (fun h10 => ?_) (fun h10 => ?_)
    · skip
      refine mw_iconst (v := 0) dX0_isOf_41 (by decide) ?_
      exact mw_bret dX0_isOf_42 rfl (by first | exact Or.inl rfl | exact Or.inr rfl | exact b2i_01) (by decide) (by decide) (⟨by first | exact absurd h10 (nI_ge (b := 6) (by omega) (by decide)) | exact absurd ⟨nI_pos' (by omega), nI_le (b := 5) (by omega) (by decide)⟩ h19, rfl, rfl⟩)
    · skip
      refine mw_iload_n dX0_isOf_13 rfl ?_
      refine mw_iconst (v := 0) dX0_isOf_14 (by decide) ?_
      refine mw_iconst (v := 5) dX0_isOf_15 (by decide) ?_
      refine mw_cSNI (g := fX6_within) dX0_isOf_16 nl_X0_27 mfX6_within (ok_X6_within) rfl rfl (Nat.le_of_ble_eq_true rfl) ⟨by decide, by decide⟩ ⟨by decide, by decide⟩ ?_
      refine mw_if_eqB (tgt := 41) dX0_isOf_19 (by decide) (fun h19 => ?_) (fun h19 => ?_)
      · skip
        refine mw_iconst (v := 0) dX0_isOf_41 (by decide) ?_
        exact mw_bret dX0_isOf_42 rfl (by first | exact Or.inl rfl | exact Or.inr rfl | exact b2i_01) (by decide) (by decide) (⟨by first | exact absurd h10 (nI_ge (b := 6) (by omega) (by decide)) | exact absurd ⟨nI_pos' (by omega), nI_le (b := 5) (by omega) (by decide)⟩ h19, rfl, rfl⟩)
      · skip
        refine mw_iload_n dX0_isOf_22 rfl ?_
        refine mw_iload_n dX0_isOf_23 rfl ?_
        refine mw_icmp_ne (tgt := 29) dX0_isOf_24 (by decide) (fun h24 => ?_) (fun h24 => ?_)
        · skip
          refine mw_getKA dX0_isOf_29 nl_X0_31 ?_
          refine mw_iload_n dX0_isOf_32 rfl ?_
          refine mw_kald dX0_isOf_33 (vp_in_nI hc (by decide)) (by rw [nI_clamp (by omega)]) ?_
          refine mw_istN 2 dX0_isOf_34 rfl (by decide) ?_
          refine mw_iincK (k := i) dX0_isOf_35 rfl rfl (by decide) ?_
          refine mw_goto (tgt := 7) dX0_isOf_38 (by decide) ?_
          exact MW.sub (by simp [lsub]) (h2 (fun q => h24 q.symm) _ rfl)
        · skip
          refine mw_iconst (v := 1) dX0_isOf_27 (by decide) ?_
          exact mw_bret dX0_isOf_28 rfl (by first | exact Or.inl rfl | exact Or.inr rfl | exact b2i_01) (by decide) (by decide) (⟨by rw [h1 h24.symm]; rfl, rfl, rfl⟩)
  have z0 : ∀ i, i < 5 → (R = true ↔ o = 0) → MW X fX0_isOf (rmOf 1 0 0) 0 0 7 [some (rf X a), some (.int o), some (.int (nI 0)), some (.int (nI i))] [] S mi (mQ X 0 0 (pI (b2i (R = true)) S mi)) := fun i hi h =>
    st 0 i (by decide) (by omega) (fun q => h.mpr q) (fun q v hv => by cases hv; exact m1 (i + 1) (by omega) (by cases hh : R; rfl; exact absurd (h.mp hh) q))
  have zz : c ≠ 0 → o ≠ nI c → ¬ (c = 3 ∧ o = 1) → ¬ (c = 4 ∧ o = 2) → (R = true ↔ o = 0) := fun h1 h2 h3 h4 => ⟨fun h => by
    rcases hR.mp h with e | e | e | e
    · exact absurd e h2
    · exact e.1
    · exact absurd e h3
    · exact absurd e h4, fun h => hR.mpr (Or.inr (Or.inl ⟨h, h1⟩))⟩
  have fin : MW X fX0_isOf (rmOf 1 0 0) 0 0 7 [some (rf X a), some (.int o), some (.int (nI c)), some (.int (nI 0))] [] S mi (mQ X 0 0 (pI (b2i (R = true)) S mi)) := by
    have hcc : c = 0 ∨ c = 1 ∨ c = 2 ∨ c = 3 ∨ c = 4 ∨ c = 5 := by omega
    rcases hcc with rfl | rfl | rfl | rfl | rfl | rfl
    · exact z0 0 (by decide) (by rw [hR]; simp [isoP, nI_0])
    · exact st 1 0 (by decide) (by decide) (fun q => hR.mpr (Or.inl q)) (fun q v hv => by cases hv; exact z0 1 (by decide) (zz (by decide) q (by simp) (by simp)))
    · exact st 2 0 (by decide) (by decide) (fun q => hR.mpr (Or.inl q)) (fun q v hv => by cases hv; exact z0 1 (by decide) (zz (by decide) q (by simp) (by simp)))
    · exact st 3 0 (by decide) (by decide) (fun q => hR.mpr (Or.inl q)) (fun q v hv => by cases hv; exact st 1 1 (by decide) (by decide) (fun q2 => hR.mpr (Or.inr (Or.inr (Or.inl ⟨rfl, q2⟩)))) (fun q2 v hv => by cases hv; exact z0 2 (by decide) (zz (by decide) q (fun e => q2 e.2) (by simp))))
    · exact st 4 0 (by decide) (by decide) (fun q => hR.mpr (Or.inl q)) (fun q v hv => by cases hv; exact st 2 1 (by decide) (by decide) (fun q2 => hR.mpr (Or.inr (Or.inr (Or.inr ⟨rfl, q2⟩)))) (fun q2 v hv => by cases hv; exact z0 2 (by decide) (zz (by decide) q (by simp) (fun e => q2 e.2))))
    · exact st 5 0 (by decide) (by decide) (fun q => hR.mpr (Or.inl q)) (fun q v hv => by cases hv; exact z0 1 (by decide) (zz (by decide) q (by simp) (by simp)))
  refine mw_aload_n dX0_isOf_0 rfl ?_
  refine mw_geti dX0_isOf_1 fl_X0_9 rfl (by assumption) ?_
  rw [hc]
  refine mw_istN 2 dX0_isOf_4 rfl (by decide) ?_
  refine mw_iconst (v := 0) dX0_isOf_5 (by decide) ?_
  refine mw_istN 3 dX0_isOf_6 rfl (by decide) ?_
  exact MW.sub (by simp [lsub, nI_0]) fin
/-- of the town at t only what lies in its own cells differs, its texts' row not -/
def Fr1 (t : Nat) (mi m : Mem) : Prop := ∀ a, (a < t ∨ t + 17 ≤ a ∨ a = t + 5) → m a = mi a
theorem Fr1.rf (t : Nat) (mi : Mem) : Fr1 t mi mi := fun _ _ => rfl
theorem Fr1.of {t : Nat} {mi m : Mem} (h : Frt t mi m) : Fr1 t mi m := fun a ha => h a (by omega) (by omega) (by omega) (by omega)
theorem Fr1.tr {t : Nat} {a b c : Mem} (h : Fr1 t a b) (k : Fr1 t b c) : Fr1 t a c := fun x hx => (k x hx).trans (h x hx)
theorem Fr1.up {t i k : Nat} {a b : Mem} {v : Int32} (h : Fr1 t a b) (hi : t ≤ i ∧ i < t + 17 ∧ i ≠ t + 5) : Fr1 t a (m_up b i k v) := fun x hx => by rw [m_up_ne (by omega)]; exact h x hx
abbrev Sp : Type := Int32 × (Nat → Int32) × Nat
/-- what a call answers, and the row and its number of attics behind it -/
def PS (S : Sg) (mi : Mem) (x : Nat) (q : Sp) : Pt3 := fun r S' m => r = some (.int q.1) ∧ S' = S ∧ eqOn (26 + 5 * q.2.2) (tv m (x + 1)) q.2.1 ∧ Fr1 (x + 1) mi m
def sAttic (A : Nat → Int32) (n : Nat) (k f w : Int32) : Sp := if (0 ≤ k ∧ k ≤ 5) ∧ (0 ≤ f ∧ f ≤ 23) ∧ (1 ≤ w ∧ w ≤ 12) then (if n = 8 then (FULLi, A, n) else (nI n, comesF A n k f w, n + 1)) else (BADi, A, n)
theorem dX6_attic_0 : decode fX6_attic.2.1 0 = .ok (.iload_n 1, 1) := by decide +kernel
theorem dX6_attic_1 : decode fX6_attic.2.1 1 = .ok (.iconst 0, 1) := by decide +kernel
theorem dX6_attic_2 : decode fX6_attic.2.1 2 = .ok (.iconst 5, 1) := by decide +kernel
theorem dX6_attic_3 : decode fX6_attic.2.1 3 = .ok (.invokestatic 50, 3) := by decide +kernel
theorem dX6_attic_6 : decode fX6_attic.2.1 6 = .ok (.ifCond .eq 20, 3) := by decide +kernel
theorem dX6_attic_9 : decode fX6_attic.2.1 9 = .ok (.iload_n 2, 1) := by decide +kernel
theorem dX6_attic_10 : decode fX6_attic.2.1 10 = .ok (.invokestatic 54, 3) := by decide +kernel
theorem dX6_attic_13 : decode fX6_attic.2.1 13 = .ok (.ifCond .eq 13, 3) := by decide +kernel
theorem dX6_attic_16 : decode fX6_attic.2.1 16 = .ok (.iload_n 3, 1) := by decide +kernel
theorem dX6_attic_17 : decode fX6_attic.2.1 17 = .ok (.iconst 1, 1) := by decide +kernel
theorem dX6_attic_18 : decode fX6_attic.2.1 18 = .ok (.bipush 12, 2) := by decide +kernel
theorem dX6_attic_20 : decode fX6_attic.2.1 20 = .ok (.invokestatic 50, 3) := by decide +kernel
theorem dX6_attic_23 : decode fX6_attic.2.1 23 = .ok (.ifCond .ne 6, 3) := by decide +kernel
theorem dX6_attic_26 : decode fX6_attic.2.1 26 = .ok (.ldc 58, 2) := by decide +kernel
theorem dX6_attic_28 : decode fX6_attic.2.1 28 = .ok (.ireturn, 1) := by decide +kernel
theorem dX6_attic_29 : decode fX6_attic.2.1 29 = .ok (.aload_n 0, 1) := by decide +kernel
theorem dX6_attic_30 : decode fX6_attic.2.1 30 = .ok (.getfield 10, 3) := by decide +kernel
theorem dX6_attic_33 : decode fX6_attic.2.1 33 = .ok (.iload_n 1, 1) := by decide +kernel
theorem dX6_attic_34 : decode fX6_attic.2.1 34 = .ok (.iload_n 2, 1) := by decide +kernel
theorem dX6_attic_35 : decode fX6_attic.2.1 35 = .ok (.iload_n 3, 1) := by decide +kernel
theorem dX6_attic_36 : decode fX6_attic.2.1 36 = .ok (.invokevirtual 59, 3) := by decide +kernel
theorem dX6_attic_39 : decode fX6_attic.2.1 39 = .ok (.ireturn, 1) := by decide +kernel
set_option maxRecDepth 100000 in
set_option maxHeartbeats 4000000 in
theorem ok_X6_attic {X : Xb} {S : Sg} {mi : Mem} {x n : Nat} {A : Nat → Int32} {k f w : Int32} (hX : AsA S x) (hn8 : n ≤ 8) (hA : eqOn (26 + 5 * n) (tv mi (x + 1)) A) (hn : A 1 = nI n) : Ok 2 0 0 fX6_attic X [rf X x, .int k, .int f, .int w] S mi (PS S mi x (sAttic A n k f w)) := by
  refine Ok.go [some (rf X x), some (.int k), some (.int f), some (.int w)] (by decide) (by simp [Value.category]) (Nat.le_of_ble_eq_true rfl) rfl ?_
  obtain ⟨k_x, ⟨r_x_now, t_now⟩, ⟨r_x_thought, t_thought⟩, ⟨r_x_image, t_image⟩, ⟨r_x_tape, t_tape⟩, ⟨r_x_sheets, k_x_sheets⟩, ⟨r_x_slots, k_x_slots⟩, ⟨r_x_waiting, k_x_waiting⟩, ⟨r_x_diff, k_x_diff⟩, a_sheets, a_slots⟩ := id hX
  refine mw_iload_n dX6_attic_0 rfl ?_
  refine mw_iconst (v := 0) dX6_attic_1 (by decide) ?_
  refine mw_iconst (v := 5) dX6_attic_2 (by decide) ?_
  refine mw_cSI (g := fX6_within) dX6_attic_3 ml_X6_50 mfX6_within (ok_X6_within) rfl rfl (Nat.le_of_ble_eq_true rfl) ⟨by decide, by decide⟩ ⟨by decide, by decide⟩ ?_
  refine mw_if_eqB (tgt := 26) dX6_attic_6 (by decide) (fun h6 => ?_) (fun h6 => ?_)
  · skip
    refine mw_ldc dX6_attic_26 cn_X6_58 ?_
    exact mw_iret dX6_attic_28 rfl (by decide) (by decide) (by rw [sAttic, if_neg (by grind)]; exact ⟨rfl, rfl, hA, Fr1.rf _ _⟩)
  · skip
    refine mw_iload_n dX6_attic_9 rfl ?_
    refine mw_cSI (g := fX6_isBearing) dX6_attic_10 ml_X6_54 mfX6_isBearing (ok_X6_isBearing) rfl rfl (Nat.le_of_ble_eq_true rfl) ⟨by decide, by decide⟩ ⟨by decide, by decide⟩ ?_
    refine mw_if_eqB (tgt := 26) dX6_attic_13 (by decide) (fun h13 => ?_) (fun h13 => ?_)
    · skip
      refine mw_ldc dX6_attic_26 cn_X6_58 ?_
      exact mw_iret dX6_attic_28 rfl (by decide) (by decide) (by rw [sAttic, if_neg (by grind)]; exact ⟨rfl, rfl, hA, Fr1.rf _ _⟩)
    · skip
      refine mw_iload_n dX6_attic_16 rfl ?_
      refine mw_iconst (v := 1) dX6_attic_17 (by decide) ?_
      refine mw_bipush (v := 12) dX6_attic_18 (by decide) ?_
      refine mw_cSI (g := fX6_within) dX6_attic_20 ml_X6_50 mfX6_within (ok_X6_within) rfl rfl (Nat.le_of_ble_eq_true rfl) ⟨by decide, by decide⟩ ⟨by decide, by decide⟩ ?_
      refine mw_if_neB (tgt := 29) dX6_attic_23 (by decide) (fun h23 => ?_) (fun h23 => ?_)
      · skip
        refine mw_aload_n dX6_attic_29 rfl ?_
        refine mw_getr dX6_attic_30 fl_X6_10 rfl (by assumption) (by assumption) ?_
        refine mw_iload_n dX6_attic_33 rfl ?_
        refine mw_iload_n dX6_attic_34 rfl ?_
        refine mw_iload_n dX6_attic_35 rfl ?_
        refine mw_callV (g := fX5_addAttic) dX6_attic_36 ml_X6_59 mfX5_addAttic (ok_X5_addAttic t_now hn8 hA hn) (t_now.1) rfl rfl (Nat.le_of_ble_eq_true rfl) ⟨by decide, by decide⟩ ⟨by decide, by decide⟩ (fun r S2 mi2 hp => ?_)
        obtain ⟨e1, ⟨h8, rfl, e2⟩ | ⟨h8, rfl, e2, e3⟩⟩ := hp
        · rw [e1, e2]
          exact mw_iret dX6_attic_39 rfl (by decide) (by decide) (by rw [sAttic, if_pos ⟨h6, h13, h23⟩, if_pos h8]; exact ⟨rfl, rfl, hA, Fr1.rf _ _⟩)
        rw [e1]
        exact mw_iret dX6_attic_39 rfl (by decide) (by decide) (by rw [sAttic, if_pos ⟨h6, h13, h23⟩, if_neg (by omega)]; exact ⟨rfl, rfl, e2, Fr1.of e3⟩)
      · skip
        refine mw_ldc dX6_attic_26 cn_X6_58 ?_
        exact mw_iret dX6_attic_28 rfl (by decide) (by decide) (by rw [sAttic, if_neg (by grind)]; exact ⟨rfl, rfl, hA, Fr1.rf _ _⟩)
def sTold (lw : LawT) (A : Nat → Int32) (n : Nat) (v w : Int32) : Int32 := if 0 ≤ v ∧ v ≤ nI n - 1 then (if w = 0 then A (26 + 5 * v.toNatClampNeg) else if w = 1 then A (26 + 5 * v.toNatClampNeg + 1) else if w = 2 then A (26 + 5 * v.toNatClampNeg + 2) else if w = 3 then A (26 + 5 * v.toNatClampNeg + 3) else if w = 4 then A (26 + 5 * v.toNatClampNeg + 4) else if w = 5 then sWide (A 2) (A (26 + 5 * v.toNatClampNeg)) (A (26 + 5 * v.toNatClampNeg + 2)) else if w = 6 then rSee A v.toNatClampNeg else if w = 7 then rRent lw A v.toNatClampNeg else BADi) else BADi
theorem dX6_told_0 : decode fX6_told.2.1 0 = .ok (.aload_n 0, 1) := by decide +kernel
theorem dX6_told_1 : decode fX6_told.2.1 1 = .ok (.iload_n 1, 1) := by decide +kernel
theorem dX6_told_2 : decode fX6_told.2.1 2 = .ok (.invokevirtual 63, 3) := by decide +kernel
theorem dX6_told_5 : decode fX6_told.2.1 5 = .ok (.ifCond .ne 6, 3) := by decide +kernel
theorem dX6_told_8 : decode fX6_told.2.1 8 = .ok (.ldc 58, 2) := by decide +kernel
theorem dX6_told_10 : decode fX6_told.2.1 10 = .ok (.ireturn, 1) := by decide +kernel
theorem dX6_told_11 : decode fX6_told.2.1 11 = .ok (.aload_n 0, 1) := by decide +kernel
theorem dX6_told_12 : decode fX6_told.2.1 12 = .ok (.getfield 10, 3) := by decide +kernel
theorem dX6_told_15 : decode fX6_told.2.1 15 = .ok (.getfield 66, 3) := by decide +kernel
theorem dX6_told_18 : decode fX6_told.2.1 18 = .ok (.iload_n 1, 1) := by decide +kernel
theorem dX6_told_19 : decode fX6_told.2.1 19 = .ok (.aaload, 1) := by decide +kernel
theorem dX6_told_20 : decode fX6_told.2.1 20 = .ok (.astore_n 3, 1) := by decide +kernel
theorem dX6_told_21 : decode fX6_told.2.1 21 = .ok (.iload_n 2, 1) := by decide +kernel
theorem dX6_told_22 : decode fX6_told.2.1 22 = .ok (.tableswitch 98 0 7 #[46, 51, 56, 61, 66, 71, 80, 89], 46) := by decide +kernel
theorem dX6_told_68 : decode fX6_told.2.1 68 = .ok (.aload_n 3, 1) := by decide +kernel
theorem dX6_told_69 : decode fX6_told.2.1 69 = .ok (.getfield 70, 3) := by decide +kernel
theorem dX6_told_72 : decode fX6_told.2.1 72 = .ok (.ireturn, 1) := by decide +kernel
theorem dX6_told_73 : decode fX6_told.2.1 73 = .ok (.aload_n 3, 1) := by decide +kernel
theorem dX6_told_74 : decode fX6_told.2.1 74 = .ok (.getfield 76, 3) := by decide +kernel
theorem dX6_told_77 : decode fX6_told.2.1 77 = .ok (.ireturn, 1) := by decide +kernel
theorem dX6_told_78 : decode fX6_told.2.1 78 = .ok (.aload_n 3, 1) := by decide +kernel
theorem dX6_told_79 : decode fX6_told.2.1 79 = .ok (.getfield 79, 3) := by decide +kernel
theorem dX6_told_82 : decode fX6_told.2.1 82 = .ok (.ireturn, 1) := by decide +kernel
theorem dX6_told_83 : decode fX6_told.2.1 83 = .ok (.aload_n 3, 1) := by decide +kernel
theorem dX6_told_84 : decode fX6_told.2.1 84 = .ok (.getfield 82, 3) := by decide +kernel
theorem dX6_told_87 : decode fX6_told.2.1 87 = .ok (.ireturn, 1) := by decide +kernel
theorem dX6_told_88 : decode fX6_told.2.1 88 = .ok (.aload_n 3, 1) := by decide +kernel
theorem dX6_told_89 : decode fX6_told.2.1 89 = .ok (.getfield 85, 3) := by decide +kernel
theorem dX6_told_92 : decode fX6_told.2.1 92 = .ok (.ireturn, 1) := by decide +kernel
theorem dX6_told_93 : decode fX6_told.2.1 93 = .ok (.aload_n 0, 1) := by decide +kernel
theorem dX6_told_94 : decode fX6_told.2.1 94 = .ok (.getfield 10, 3) := by decide +kernel
theorem dX6_told_97 : decode fX6_told.2.1 97 = .ok (.aload_n 3, 1) := by decide +kernel
theorem dX6_told_98 : decode fX6_told.2.1 98 = .ok (.invokevirtual 88, 3) := by decide +kernel
theorem dX6_told_101 : decode fX6_told.2.1 101 = .ok (.ireturn, 1) := by decide +kernel
theorem dX6_told_102 : decode fX6_told.2.1 102 = .ok (.aload_n 0, 1) := by decide +kernel
theorem dX6_told_103 : decode fX6_told.2.1 103 = .ok (.getfield 10, 3) := by decide +kernel
theorem dX6_told_106 : decode fX6_told.2.1 106 = .ok (.aload_n 3, 1) := by decide +kernel
theorem dX6_told_107 : decode fX6_told.2.1 107 = .ok (.invokevirtual 92, 3) := by decide +kernel
theorem dX6_told_110 : decode fX6_told.2.1 110 = .ok (.ireturn, 1) := by decide +kernel
theorem dX6_told_111 : decode fX6_told.2.1 111 = .ok (.aload_n 0, 1) := by decide +kernel
theorem dX6_told_112 : decode fX6_told.2.1 112 = .ok (.getfield 10, 3) := by decide +kernel
theorem dX6_told_115 : decode fX6_told.2.1 115 = .ok (.aload_n 3, 1) := by decide +kernel
theorem dX6_told_116 : decode fX6_told.2.1 116 = .ok (.invokevirtual 95, 3) := by decide +kernel
theorem dX6_told_119 : decode fX6_told.2.1 119 = .ok (.ireturn, 1) := by decide +kernel
theorem dX6_told_120 : decode fX6_told.2.1 120 = .ok (.ldc 58, 2) := by decide +kernel
theorem dX6_told_122 : decode fX6_told.2.1 122 = .ok (.ireturn, 1) := by decide +kernel
set_option maxRecDepth 100000 in
set_option maxHeartbeats 4000000 in
theorem ok_X6_told {X : Xb} {S : Sg} {mi : Mem} {x n : Nat} {A : Nat → Int32} {lw : LawT} {v w : Int32} (hX : AsA S x) (hn8 : n ≤ 8) (hA : eqOn (26 + 5 * n) (tv mi (x + 1)) A) (hn : A 1 = nI n) (hx : TxOk S mi (x + 1) 0) (hl : lwC S mi (x + 1) 0 = lw) : Ok 4 0 0 fX6_told X [rf X x, .int v, .int w] S mi (PS S mi x (sTold lw A n v w, A, n)) := by
  refine Ok.go [some (rf X x), some (.int v), some (.int w), none] (by decide) (by simp [Value.category]) (Nat.le_of_ble_eq_true rfl) rfl ?_
  obtain ⟨k_x, ⟨r_x_now, t_now⟩, ⟨r_x_thought, t_thought⟩, ⟨r_x_image, t_image⟩, ⟨r_x_tape, t_tape⟩, ⟨r_x_sheets, k_x_sheets⟩, ⟨r_x_slots, k_x_slots⟩, ⟨r_x_waiting, k_x_waiting⟩, ⟨r_x_diff, k_x_diff⟩, a_sheets, a_slots⟩ := id hX
  obtain ⟨k_t, ⟨r_t_home, k_t_home⟩, ⟨r_t_price, k_t_price⟩, ⟨r_t_attics, k_t_attics⟩, ⟨r_t_texts, k_t_texts⟩, ⟨r_t_counting, k_t_counting⟩, ⟨r_t_names, k_t_names⟩, ⟨r_t_pile, k_t_pile⟩, ⟨r_t_views, k_t_views⟩, a_t⟩ := id t_now
  have ec : mi (x + 1) 3 = nI n := by rw [show (3 : Nat) = tvF 1 from rfl, tv_0 hA (by decide) (by omega), hn]
  have z := Fr1.rf (x + 1) mi
  refine mw_aload_n dX6_told_0 rfl ?_
  refine mw_iload_n dX6_told_1 rfl ?_
  refine mw_cVI (g := fX6_isAttic) dX6_told_2 ml_X6_63 mfX6_isAttic (ok_X6_isAttic hX ec) (by assumption) rfl rfl (Nat.le_of_ble_eq_true rfl) ⟨by decide, by decide⟩ ⟨by decide, by decide⟩ ?_
  refine mw_if_neB (tgt := 11) dX6_told_5 (by decide) (fun h5 => ?_) (fun h5 => ?_)
  · skip
    obtain ⟨a, han, rfl⟩ := inAt h5 hn8
    have hka := (a_t a (by omega)).2
    have ecl : (nI a).toNatClampNeg = a := nI_clamp (by omega)
    have eq0 := tv_A (a := a) (f := 0) hA (by decide) (by omega)
    have eq1 := tv_A (a := a) (f := 1) hA (by decide) (by omega)
    have eq2 := tv_A (a := a) (f := 2) hA (by decide) (by omega)
    have eq3 := tv_A (a := a) (f := 3) hA (by decide) (by omega)
    have eq4 := tv_A (a := a) (f := 4) hA (by decide) (by omega)
    have e10 : mi (x + 1) 10 = A 2 := tv_0 (j := 2) hA (by decide) (by omega)
    refine mw_aload_n dX6_told_11 rfl ?_
    refine mw_getr dX6_told_12 fl_X6_10 rfl (by assumption) (by assumption) ?_
    refine mw_getr dX6_told_15 fl_X6_66 rfl (by assumption) (by assumption) ?_
    refine mw_iload_n dX6_told_18 rfl ?_
    refine mw_aldK (k := a) dX6_told_19 (by assumption) (by decide) (rfl) (by omega) (by decide) ((a_t a (by omega)).1) ?_
    refine mw_astN 3 dX6_told_20 rfl (by decide) ?_
    refine mw_iload_n dX6_told_21 rfl ?_
    refine mw_ts1 dX6_told_22 (by decide) 0 68 (by decide) (fun h22_0 => ?_) (fun h22_0 => ?_)
    · skip
      refine mw_aload_n dX6_told_68 rfl ?_
      refine mw_geti dX6_told_69 fl_X6_70 rfl (by assumption) ?_
      exact mw_iret dX6_told_72 rfl (by decide) (by decide) (⟨by simp only [sTold, if_pos h5, ecl]; first | simp_all | (rw [show cSees (mi (x + 1 + 1)) (mi (x + 1) 10) (mi (x + 1) 4) (mi (x + 1 + 9 + a) 0) (mi (x + 1 + 9 + a) 1) (mi (x + 1 + 9 + a) 2) = rSee A a from rSee_of hA (by omega)]; simp_all), rfl, hA, z⟩)
    refine mw_ts1 dX6_told_22 (by decide) 1 73 (by decide) (fun h22_1 => ?_) (fun h22_1 => ?_)
    · skip
      refine mw_aload_n dX6_told_73 rfl ?_
      refine mw_geti dX6_told_74 fl_X6_76 rfl (by assumption) ?_
      exact mw_iret dX6_told_77 rfl (by decide) (by decide) (⟨by simp only [sTold, if_pos h5, ecl]; first | simp_all | (rw [show cSees (mi (x + 1 + 1)) (mi (x + 1) 10) (mi (x + 1) 4) (mi (x + 1 + 9 + a) 0) (mi (x + 1 + 9 + a) 1) (mi (x + 1 + 9 + a) 2) = rSee A a from rSee_of hA (by omega)]; simp_all), rfl, hA, z⟩)
    refine mw_ts1 dX6_told_22 (by decide) 2 78 (by decide) (fun h22_2 => ?_) (fun h22_2 => ?_)
    · skip
      refine mw_aload_n dX6_told_78 rfl ?_
      refine mw_geti dX6_told_79 fl_X6_79 rfl (by assumption) ?_
      exact mw_iret dX6_told_82 rfl (by decide) (by decide) (⟨by simp only [sTold, if_pos h5, ecl]; first | simp_all | (rw [show cSees (mi (x + 1 + 1)) (mi (x + 1) 10) (mi (x + 1) 4) (mi (x + 1 + 9 + a) 0) (mi (x + 1 + 9 + a) 1) (mi (x + 1 + 9 + a) 2) = rSee A a from rSee_of hA (by omega)]; simp_all), rfl, hA, z⟩)
    refine mw_ts1 dX6_told_22 (by decide) 3 83 (by decide) (fun h22_3 => ?_) (fun h22_3 => ?_)
    · skip
      refine mw_aload_n dX6_told_83 rfl ?_
      refine mw_geti dX6_told_84 fl_X6_82 rfl (by assumption) ?_
      exact mw_iret dX6_told_87 rfl (by decide) (by decide) (⟨by simp only [sTold, if_pos h5, ecl]; first | simp_all | (rw [show cSees (mi (x + 1 + 1)) (mi (x + 1) 10) (mi (x + 1) 4) (mi (x + 1 + 9 + a) 0) (mi (x + 1 + 9 + a) 1) (mi (x + 1 + 9 + a) 2) = rSee A a from rSee_of hA (by omega)]; simp_all), rfl, hA, z⟩)
    refine mw_ts1 dX6_told_22 (by decide) 4 88 (by decide) (fun h22_4 => ?_) (fun h22_4 => ?_)
    · skip
      refine mw_aload_n dX6_told_88 rfl ?_
      refine mw_geti dX6_told_89 fl_X6_85 rfl (by assumption) ?_
      exact mw_iret dX6_told_92 rfl (by decide) (by decide) (⟨by simp only [sTold, if_pos h5, ecl]; first | simp_all | (rw [show cSees (mi (x + 1 + 1)) (mi (x + 1) 10) (mi (x + 1) 4) (mi (x + 1 + 9 + a) 0) (mi (x + 1 + 9 + a) 1) (mi (x + 1 + 9 + a) 2) = rSee A a from rSee_of hA (by omega)]; simp_all), rfl, hA, z⟩)
    refine mw_ts1 dX6_told_22 (by decide) 5 93 (by decide) (fun h22_5 => ?_) (fun h22_5 => ?_)
    · skip
      refine mw_aload_n dX6_told_93 rfl ?_
      refine mw_getr dX6_told_94 fl_X6_10 rfl (by assumption) (by assumption) ?_
      refine mw_aload_n dX6_told_97 rfl ?_
      refine mw_cVI (g := fX5_wideOf) dX6_told_98 ml_X6_88 mfX5_wideOf (ok_X5_wideOf t_now hka) (by assumption) rfl rfl (Nat.le_of_ble_eq_true rfl) ⟨by decide, by decide⟩ ⟨by decide, by decide⟩ ?_
      exact mw_iret dX6_told_101 rfl (by decide) (by decide) (⟨by simp only [sTold, if_pos h5, ecl]; first | simp_all | (rw [show cSees (mi (x + 1 + 1)) (mi (x + 1) 10) (mi (x + 1) 4) (mi (x + 1 + 9 + a) 0) (mi (x + 1 + 9 + a) 1) (mi (x + 1 + 9 + a) 2) = rSee A a from rSee_of hA (by omega)]; simp_all), rfl, hA, z⟩)
    refine mw_ts1 dX6_told_22 (by decide) 6 102 (by decide) (fun h22_6 => ?_) (fun h22_6 => ?_)
    · skip
      refine mw_aload_n dX6_told_102 rfl ?_
      refine mw_getr dX6_told_103 fl_X6_10 rfl (by assumption) (by assumption) ?_
      refine mw_aload_n dX6_told_106 rfl ?_
      refine mw_cVI (g := fX5_seenBy) dX6_told_107 ml_X6_92 mfX5_seenBy (ok_X5_seenBy t_now hka) (by assumption) rfl rfl (Nat.le_of_ble_eq_true rfl) ⟨by decide, by decide⟩ ⟨by decide, by decide⟩ ?_
      exact mw_iret dX6_told_110 rfl (by decide) (by decide) (⟨by have e := rSee_of (a := a) hA (by omega); unfold cSeesQ at e; rw [e]; simp only [sTold, if_pos h5, ecl, h22_6]; simp, rfl, hA, z⟩)
    refine mw_ts1 dX6_told_22 (by decide) 7 111 (by decide) (fun h22_7 => ?_) (fun h22_7 => ?_)
    · skip
      refine mw_aload_n dX6_told_111 rfl ?_
      refine mw_getr dX6_told_112 fl_X6_10 rfl (by assumption) (by assumption) ?_
      refine mw_aload_n dX6_told_115 rfl ?_
      refine mw_callV (g := fX5_rentOf) dX6_told_116 ml_X6_95 mfX5_rentOf (ok_rentOf t_now hka hx) (by assumption) rfl rfl (Nat.le_of_ble_eq_true rfl) ⟨by decide, by decide⟩ ⟨by decide, by decide⟩ (fun r S2 mi2 hp => ?_)
      obtain ⟨rfl, e1, hs⟩ := hp
      rw [e1, cRent_of hA (by omega), hl]
      exact mw_iret dX6_told_119 rfl (by decide) (by decide) (by simp only [sTold, if_pos h5, ecl]; simp only [*]; exact ⟨by simp, rfl, tv_scr hs hA, Fr1.of (Frt.scr hs)⟩)
    refine mw_ts0 dX6_told_22 (by decide) 120 (by decide) (by have e0 := ne_toI (n := 0) (by decide) h22_0; have e1 := ne_toI (n := 1) (by decide) h22_1; have e2 := ne_toI (n := 2) (by decide) h22_2; have e3 := ne_toI (n := 3) (by decide) h22_3; have e4 := ne_toI (n := 4) (by decide) h22_4; have e5 := ne_toI (n := 5) (by decide) h22_5; have e6 := ne_toI (n := 6) (by decide) h22_6; have e7 := ne_toI (n := 7) (by decide) h22_7; omega) ?_
    refine mw_ldc dX6_told_120 cn_X6_58 ?_
    exact mw_iret dX6_told_122 rfl (by decide) (by decide) (⟨by simp only [sTold, if_pos h5, ecl]; first | simp_all | (rw [show cSees (mi (x + 1 + 1)) (mi (x + 1) 10) (mi (x + 1) 4) (mi (x + 1 + 9 + a) 0) (mi (x + 1 + 9 + a) 1) (mi (x + 1 + 9 + a) 2) = rSee A a from rSee_of hA (by omega)]; simp_all), rfl, hA, z⟩)
  · skip
    refine mw_ldc dX6_told_8 cn_X6_58 ?_
    exact mw_iret dX6_told_10 rfl (by decide) (by decide) (by rw [sTold, if_neg h5]; exact ⟨rfl, rfl, hA, z⟩)
def sAs (A : Nat → Int32) (n : Nat) (v k : Int32) : Int32 := if (0 ≤ v ∧ v ≤ nI n - 1) ∧ (0 ≤ k ∧ k ≤ 5) then (if isoB (A (26 + 5 * v.toNatClampNeg)) k then A (26 + 5 * v.toNatClampNeg + 3) else KINDi) else BADi
def inK (A : Nat → Int32) (n : Nat) : Prop := ∀ a, a < n → ∃ c, c < 6 ∧ A (26 + 5 * a) = nI c
theorem dX6_as_0 : decode fX6_as.2.1 0 = .ok (.aload_n 0, 1) := by decide +kernel
theorem dX6_as_1 : decode fX6_as.2.1 1 = .ok (.iload_n 1, 1) := by decide +kernel
theorem dX6_as_2 : decode fX6_as.2.1 2 = .ok (.invokevirtual 63, 3) := by decide +kernel
theorem dX6_as_5 : decode fX6_as.2.1 5 = .ok (.ifCond .eq 12, 3) := by decide +kernel
theorem dX6_as_8 : decode fX6_as.2.1 8 = .ok (.iload_n 2, 1) := by decide +kernel
theorem dX6_as_9 : decode fX6_as.2.1 9 = .ok (.iconst 0, 1) := by decide +kernel
theorem dX6_as_10 : decode fX6_as.2.1 10 = .ok (.iconst 5, 1) := by decide +kernel
theorem dX6_as_11 : decode fX6_as.2.1 11 = .ok (.invokestatic 50, 3) := by decide +kernel
theorem dX6_as_14 : decode fX6_as.2.1 14 = .ok (.ifCond .ne 6, 3) := by decide +kernel
theorem dX6_as_17 : decode fX6_as.2.1 17 = .ok (.ldc 58, 2) := by decide +kernel
theorem dX6_as_19 : decode fX6_as.2.1 19 = .ok (.ireturn, 1) := by decide +kernel
theorem dX6_as_20 : decode fX6_as.2.1 20 = .ok (.aload_n 0, 1) := by decide +kernel
theorem dX6_as_21 : decode fX6_as.2.1 21 = .ok (.getfield 10, 3) := by decide +kernel
theorem dX6_as_24 : decode fX6_as.2.1 24 = .ok (.getfield 66, 3) := by decide +kernel
theorem dX6_as_27 : decode fX6_as.2.1 27 = .ok (.iload_n 1, 1) := by decide +kernel
theorem dX6_as_28 : decode fX6_as.2.1 28 = .ok (.aaload, 1) := by decide +kernel
theorem dX6_as_29 : decode fX6_as.2.1 29 = .ok (.astore_n 3, 1) := by decide +kernel
theorem dX6_as_30 : decode fX6_as.2.1 30 = .ok (.aload_n 3, 1) := by decide +kernel
theorem dX6_as_31 : decode fX6_as.2.1 31 = .ok (.iload_n 2, 1) := by decide +kernel
theorem dX6_as_32 : decode fX6_as.2.1 32 = .ok (.invokevirtual 98, 3) := by decide +kernel
theorem dX6_as_35 : decode fX6_as.2.1 35 = .ok (.ifCond .eq 10, 3) := by decide +kernel
theorem dX6_as_38 : decode fX6_as.2.1 38 = .ok (.aload_n 3, 1) := by decide +kernel
theorem dX6_as_39 : decode fX6_as.2.1 39 = .ok (.getfield 82, 3) := by decide +kernel
theorem dX6_as_42 : decode fX6_as.2.1 42 = .ok (.goto 5, 3) := by decide +kernel
theorem dX6_as_45 : decode fX6_as.2.1 45 = .ok (.ldc 101, 2) := by decide +kernel
theorem dX6_as_47 : decode fX6_as.2.1 47 = .ok (.ireturn, 1) := by decide +kernel
set_option maxRecDepth 100000 in
set_option maxHeartbeats 4000000 in
theorem ok_X6_as {X : Xb} {S : Sg} {mi : Mem} {x n : Nat} {A : Nat → Int32} {v k : Int32} (hX : AsA S x) (hn8 : n ≤ 8) (hA : eqOn (26 + 5 * n) (tv mi (x + 1)) A) (hn : A 1 = nI n) (hk : inK A n) : Ok 2 0 0 fX6_as X [rf X x, .int v, .int k] S mi (PS S mi x (sAs A n v k, A, n)) := by
  refine Ok.go [some (rf X x), some (.int v), some (.int k), none] (by decide) (by simp [Value.category]) (Nat.le_of_ble_eq_true rfl) rfl ?_
  obtain ⟨k_x, ⟨r_x_now, t_now⟩, ⟨r_x_thought, t_thought⟩, ⟨r_x_image, t_image⟩, ⟨r_x_tape, t_tape⟩, ⟨r_x_sheets, k_x_sheets⟩, ⟨r_x_slots, k_x_slots⟩, ⟨r_x_waiting, k_x_waiting⟩, ⟨r_x_diff, k_x_diff⟩, a_sheets, a_slots⟩ := id hX
  obtain ⟨k_t, ⟨r_t_home, k_t_home⟩, ⟨r_t_price, k_t_price⟩, ⟨r_t_attics, k_t_attics⟩, ⟨r_t_texts, k_t_texts⟩, ⟨r_t_counting, k_t_counting⟩, ⟨r_t_names, k_t_names⟩, ⟨r_t_pile, k_t_pile⟩, ⟨r_t_views, k_t_views⟩, a_t⟩ := id t_now
  have ec : mi (x + 1) 3 = nI n := by rw [show (3 : Nat) = tvF 1 from rfl, tv_0 hA (by decide) (by omega), hn]
  have z := Fr1.rf (x + 1) mi
  refine mw_aload_n dX6_as_0 rfl ?_
  refine mw_iload_n dX6_as_1 rfl ?_
  refine mw_cVI (g := fX6_isAttic) dX6_as_2 ml_X6_63 mfX6_isAttic (ok_X6_isAttic hX ec) (by assumption) rfl rfl (Nat.le_of_ble_eq_true rfl) ⟨by decide, by decide⟩ ⟨by decide, by decide⟩ ?_
  refine mw_if_eqB (tgt := 17) dX6_as_5 (by decide) (fun h5 => ?_) (fun h5 => ?_)
  · skip
    refine mw_ldc dX6_as_17 cn_X6_58 ?_
    exact mw_iret dX6_as_19 rfl (by decide) (by decide) (by rw [sAs, if_neg (by grind)]; exact ⟨rfl, rfl, hA, z⟩)
  · skip
    refine mw_iload_n dX6_as_8 rfl ?_
    refine mw_iconst (v := 0) dX6_as_9 (by decide) ?_
    refine mw_iconst (v := 5) dX6_as_10 (by decide) ?_
    refine mw_cSI (g := fX6_within) dX6_as_11 ml_X6_50 mfX6_within (ok_X6_within) rfl rfl (Nat.le_of_ble_eq_true rfl) ⟨by decide, by decide⟩ ⟨by decide, by decide⟩ ?_
    refine mw_if_neB (tgt := 20) dX6_as_14 (by decide) (fun h14 => ?_) (fun h14 => ?_)
    · skip
      obtain ⟨a, han, rfl⟩ := inAt h5 hn8
      have hka := (a_t a (by omega)).2
      have ecl : (nI a).toNatClampNeg = a := nI_clamp (by omega)
      obtain ⟨c, hc6, hc⟩ := hk a han
      have eq0 : mi (x + 1 + 9 + a) 0 = nI c := (tv_A (a := a) (f := 0) hA (by decide) (by omega)).trans hc
      have eq3 := tv_A (a := a) (f := 3) hA (by decide) (by omega)
      refine mw_aload_n dX6_as_20 rfl ?_
      refine mw_getr dX6_as_21 fl_X6_10 rfl (by assumption) (by assumption) ?_
      refine mw_getr dX6_as_24 fl_X6_66 rfl (by assumption) (by assumption) ?_
      refine mw_iload_n dX6_as_27 rfl ?_
      refine mw_aldK (k := a) dX6_as_28 (by assumption) (by decide) (rfl) (by omega) (by decide) ((a_t a (by omega)).1) ?_
      refine mw_astN 3 dX6_as_29 rfl (by decide) ?_
      refine mw_aload_n dX6_as_30 rfl ?_
      refine mw_iload_n dX6_as_31 rfl ?_
      refine mw_cVI (g := fX0_isOf) dX6_as_32 ml_X6_98 mfX0_isOf (ok_X0_isOf (R := isoB (nI c) k) hka eq0 hc6 (isoB_iff hc6)) (hka) rfl rfl (Nat.le_of_ble_eq_true rfl) ⟨by decide, by decide⟩ ⟨by decide, by decide⟩ ?_
      refine mw_if_eqB (tgt := 45) dX6_as_35 (by decide) (fun h35 => ?_) (fun h35 => ?_)
      · skip
        refine mw_ldc dX6_as_45 cn_X6_101 ?_
        exact mw_iret dX6_as_47 rfl (by decide) (by decide) (by simp only [sAs, if_pos (And.intro h5 h14), ecl, hc, h35]; first | exact ⟨by rw [eq3]; simp, rfl, hA, z⟩ | exact ⟨by simp, rfl, hA, z⟩)
      · skip
        refine mw_aload_n dX6_as_38 rfl ?_
        refine mw_geti dX6_as_39 fl_X6_82 rfl (by assumption) ?_
        refine mw_goto (tgt := 47) dX6_as_42 (by decide) ?_
        exact mw_iret dX6_as_47 rfl (by decide) (by decide) (by simp only [sAs, if_pos (And.intro h5 h14), ecl, hc, h35]; first | exact ⟨by rw [eq3]; simp, rfl, hA, z⟩ | exact ⟨by simp, rfl, hA, z⟩)
    · skip
      refine mw_ldc dX6_as_17 cn_X6_58 ?_
      exact mw_iret dX6_as_19 rfl (by decide) (by decide) (by rw [sAs, if_neg (by grind)]; exact ⟨rfl, rfl, hA, z⟩)
end
section
/-! the object's calls: turns, set, star, starOf, chimney, smokes, rule, seed -/
theorem tv_upH {N t k : Nat} {m : Mem} {B : Nat → Int32} {v : Int32} (hk : k < 8) (h : eqOn N (tv m t) B) : eqOn N (tv (m_up m (t + 1) k v) t) (upd B (10 + k) v) := by
  intro i hi
  have h0 := h i hi
  simp only [tv] at h0 ⊢
  rw [m_up_ne (show t ≠ t + 1 by omega), m_up_ne (show t + 2 ≠ t + 1 by omega), m_up_ne (show t + 9 + (i - 26) / 5 ≠ t + 1 by omega)]
  by_cases c : i = 10 + k
  · subst c
    simp only [show ¬ 10 + k < 10 by omega, show 10 + k < 18 by omega, if_false, if_true, upd, show 10 + k - 10 = k by omega, m_up, and_self]
  · simp only [upd, c, if_false]
    by_cases c1 : i < 10
    · simp only [c1, if_true] at h0 ⊢; exact h0
    · by_cases c2 : i < 18
      · simp only [c1, c2, if_true, if_false] at h0 ⊢
        rw [m_up_of (by omega)]; exact h0
      · simp only [c1, c2, if_false] at h0 ⊢; exact h0
theorem tv_upP {N t k : Nat} {m : Mem} {B : Nat → Int32} {v : Int32} (hk : k < 8) (h : eqOn N (tv m t) B) : eqOn N (tv (m_up m (t + 2) k v) t) (upd B (18 + k) v) := by
  intro i hi
  have h0 := h i hi
  simp only [tv] at h0 ⊢
  rw [m_up_ne (show t ≠ t + 2 by omega), m_up_ne (show t + 1 ≠ t + 2 by omega), m_up_ne (show t + 9 + (i - 26) / 5 ≠ t + 2 by omega)]
  by_cases c : i = 18 + k
  · subst c
    simp only [show ¬ 18 + k < 10 by omega, show ¬ 18 + k < 18 by omega, show 18 + k < 26 by omega, if_false, if_true, upd, show 18 + k - 18 = k by omega, m_up, and_self]
  · simp only [upd, c, if_false]
    by_cases c1 : i < 10
    · simp only [c1, if_true] at h0 ⊢; exact h0
    · by_cases c2 : i < 18
      · simp only [c1, c2, if_true, if_false] at h0 ⊢; exact h0
      · by_cases c3 : i < 26
        · simp only [c1, c2, c3, if_true, if_false] at h0 ⊢
          rw [m_up_of (by omega)]; exact h0
        · simp only [c1, c2, c3, if_false] at h0 ⊢; exact h0
theorem in7 {v : Int32} (h : 0 ≤ v ∧ v ≤ 7) : ∃ k, k < 8 ∧ v = nI k := by
  obtain ⟨j, hj, rfl⟩ := nI_of (Int32.not_lt.mpr h.1)
  exact ⟨j, by have := (nI_leI (b := 7) hj (by decide)).mp h.2; omega, rfl⟩
def sTurns (A : Nat → Int32) (n : Nat) (v k : Int32) : Sp := if (0 ≤ v ∧ v ≤ nI n - 1) ∧ (0 ≤ k ∧ k ≤ 5) then (A (26 + 5 * v.toNatClampNeg), upd A (26 + 5 * v.toNatClampNeg) k, n) else (BADi, A, n)
theorem dX6_turns_0 : decode fX6_turns.2.1 0 = .ok (.aload_n 0, 1) := by decide +kernel
theorem dX6_turns_1 : decode fX6_turns.2.1 1 = .ok (.iload_n 1, 1) := by decide +kernel
theorem dX6_turns_2 : decode fX6_turns.2.1 2 = .ok (.invokevirtual 63, 3) := by decide +kernel
theorem dX6_turns_5 : decode fX6_turns.2.1 5 = .ok (.ifCond .eq 12, 3) := by decide +kernel
theorem dX6_turns_8 : decode fX6_turns.2.1 8 = .ok (.iload_n 2, 1) := by decide +kernel
theorem dX6_turns_9 : decode fX6_turns.2.1 9 = .ok (.iconst 0, 1) := by decide +kernel
theorem dX6_turns_10 : decode fX6_turns.2.1 10 = .ok (.iconst 5, 1) := by decide +kernel
theorem dX6_turns_11 : decode fX6_turns.2.1 11 = .ok (.invokestatic 50, 3) := by decide +kernel
theorem dX6_turns_14 : decode fX6_turns.2.1 14 = .ok (.ifCond .ne 6, 3) := by decide +kernel
theorem dX6_turns_17 : decode fX6_turns.2.1 17 = .ok (.ldc 58, 2) := by decide +kernel
theorem dX6_turns_19 : decode fX6_turns.2.1 19 = .ok (.ireturn, 1) := by decide +kernel
theorem dX6_turns_20 : decode fX6_turns.2.1 20 = .ok (.aload_n 0, 1) := by decide +kernel
theorem dX6_turns_21 : decode fX6_turns.2.1 21 = .ok (.getfield 10, 3) := by decide +kernel
theorem dX6_turns_24 : decode fX6_turns.2.1 24 = .ok (.getfield 66, 3) := by decide +kernel
theorem dX6_turns_27 : decode fX6_turns.2.1 27 = .ok (.iload_n 1, 1) := by decide +kernel
theorem dX6_turns_28 : decode fX6_turns.2.1 28 = .ok (.aaload, 1) := by decide +kernel
theorem dX6_turns_29 : decode fX6_turns.2.1 29 = .ok (.astore_n 3, 1) := by decide +kernel
theorem dX6_turns_30 : decode fX6_turns.2.1 30 = .ok (.aload_n 3, 1) := by decide +kernel
theorem dX6_turns_31 : decode fX6_turns.2.1 31 = .ok (.getfield 70, 3) := by decide +kernel
theorem dX6_turns_34 : decode fX6_turns.2.1 34 = .ok (.istore 4, 2) := by decide +kernel
theorem dX6_turns_36 : decode fX6_turns.2.1 36 = .ok (.aload_n 3, 1) := by decide +kernel
theorem dX6_turns_37 : decode fX6_turns.2.1 37 = .ok (.iload_n 2, 1) := by decide +kernel
theorem dX6_turns_38 : decode fX6_turns.2.1 38 = .ok (.putfield 70, 3) := by decide +kernel
theorem dX6_turns_41 : decode fX6_turns.2.1 41 = .ok (.iload 4, 2) := by decide +kernel
theorem dX6_turns_43 : decode fX6_turns.2.1 43 = .ok (.ireturn, 1) := by decide +kernel
set_option maxRecDepth 100000 in
set_option maxHeartbeats 4000000 in
theorem ok_X6_turns {X : Xb} {S : Sg} {mi : Mem} {x n : Nat} {A : Nat → Int32} {v k : Int32} (hX : AsA S x) (hn8 : n ≤ 8) (hA : eqOn (26 + 5 * n) (tv mi (x + 1)) A) (hn : A 1 = nI n) : Ok 2 0 0 fX6_turns X [rf X x, .int v, .int k] S mi (PS S mi x (sTurns A n v k)) := by
  refine Ok.go [some (rf X x), some (.int v), some (.int k), none, none] (by decide) (by simp [Value.category]) (Nat.le_of_ble_eq_true rfl) rfl ?_
  obtain ⟨k_x, ⟨r_x_now, t_now⟩, ⟨r_x_thought, t_thought⟩, ⟨r_x_image, t_image⟩, ⟨r_x_tape, t_tape⟩, ⟨r_x_sheets, k_x_sheets⟩, ⟨r_x_slots, k_x_slots⟩, ⟨r_x_waiting, k_x_waiting⟩, ⟨r_x_diff, k_x_diff⟩, a_sheets, a_slots⟩ := id hX
  obtain ⟨k_t, ⟨r_t_home, k_t_home⟩, ⟨r_t_price, k_t_price⟩, ⟨r_t_attics, k_t_attics⟩, ⟨r_t_texts, k_t_texts⟩, ⟨r_t_counting, k_t_counting⟩, ⟨r_t_names, k_t_names⟩, ⟨r_t_pile, k_t_pile⟩, ⟨r_t_views, k_t_views⟩, a_t⟩ := id t_now
  have ec : mi (x + 1) 3 = nI n := by rw [show (3 : Nat) = tvF 1 from rfl, tv_0 hA (by decide) (by omega), hn]
  have z := Fr1.rf (x + 1) mi
  refine mw_aload_n dX6_turns_0 rfl ?_
  refine mw_iload_n dX6_turns_1 rfl ?_
  refine mw_cVI (g := fX6_isAttic) dX6_turns_2 ml_X6_63 mfX6_isAttic (ok_X6_isAttic hX ec) (by assumption) rfl rfl (Nat.le_of_ble_eq_true rfl) ⟨by decide, by decide⟩ ⟨by decide, by decide⟩ ?_
  refine mw_if_eqB (tgt := 17) dX6_turns_5 (by decide) (fun h5 => ?_) (fun h5 => ?_)
  · skip
    refine mw_ldc dX6_turns_17 cn_X6_58 ?_
    exact mw_iret dX6_turns_19 rfl (by decide) (by decide) (by rw [sTurns, if_neg (by grind)]; exact ⟨rfl, rfl, hA, z⟩)
  · skip
    refine mw_iload_n dX6_turns_8 rfl ?_
    refine mw_iconst (v := 0) dX6_turns_9 (by decide) ?_
    refine mw_iconst (v := 5) dX6_turns_10 (by decide) ?_
    refine mw_cSI (g := fX6_within) dX6_turns_11 ml_X6_50 mfX6_within (ok_X6_within) rfl rfl (Nat.le_of_ble_eq_true rfl) ⟨by decide, by decide⟩ ⟨by decide, by decide⟩ ?_
    refine mw_if_neB (tgt := 20) dX6_turns_14 (by decide) (fun h14 => ?_) (fun h14 => ?_)
    · skip
      obtain ⟨a, han, rfl⟩ := inAt h5 hn8
      have hka := (a_t a (by omega)).2
      have ecl : (nI a).toNatClampNeg = a := nI_clamp (by omega)
      have eq0 := tv_A (a := a) (f := 0) hA (by decide) (by omega)
      refine mw_aload_n dX6_turns_20 rfl ?_
      refine mw_getr dX6_turns_21 fl_X6_10 rfl (by assumption) (by assumption) ?_
      refine mw_getr dX6_turns_24 fl_X6_66 rfl (by assumption) (by assumption) ?_
      refine mw_iload_n dX6_turns_27 rfl ?_
      refine mw_aldK (k := a) dX6_turns_28 (by assumption) (by decide) (rfl) (by omega) (by decide) ((a_t a (by omega)).1) ?_
      refine mw_astN 3 dX6_turns_29 rfl (by decide) ?_
      refine mw_aload_n dX6_turns_30 rfl ?_
      refine mw_geti dX6_turns_31 fl_X6_70 rfl (by assumption) ?_
      refine mw_istore dX6_turns_34 (by decide) ?_
      refine mw_aload_n dX6_turns_36 rfl ?_
      refine mw_iload_n dX6_turns_37 rfl ?_
      refine mw_puti dX6_turns_38 fl_X6_70 ft_0_0 rfl (rfl) rfl (by assumption) ?_
      refine mw_iload dX6_turns_41 rfl ?_
      exact mw_iret dX6_turns_43 rfl (by decide) (by decide) (by rw [sTurns, if_pos (And.intro h5 h14), ecl]; exact ⟨by rw [eq0]; rfl, rfl, tv_upA (f := 0) (by omega) (by decide) hA, z.up (by omega)⟩)
    · skip
      refine mw_ldc dX6_turns_17 cn_X6_58 ?_
      exact mw_iret dX6_turns_19 rfl (by decide) (by decide) (by rw [sTurns, if_neg (by grind)]; exact ⟨rfl, rfl, hA, z⟩)
def sSet (A : Nat → Int32) (n : Nat) (v w y : Int32) : Sp := if 0 ≤ v ∧ v ≤ nI n - 1 then (if (w = 1 ∧ 0 ≤ y ∧ y ≤ 23) ∨ (w = 2 ∧ 1 ≤ y ∧ y ≤ 12) ∨ ((w = 3 ∨ w = 4) ∧ 0 ≤ y ∧ y ≤ 9999) then (A (26 + 5 * v.toNatClampNeg + w.toNatClampNeg), upd A (26 + 5 * v.toNatClampNeg + w.toNatClampNeg) y, n) else (BADi, A, n)) else (BADi, A, n)
theorem dX6_set_0 : decode fX6_set.2.1 0 = .ok (.aload_n 0, 1) := by decide +kernel
theorem dX6_set_1 : decode fX6_set.2.1 1 = .ok (.iload_n 1, 1) := by decide +kernel
theorem dX6_set_2 : decode fX6_set.2.1 2 = .ok (.invokevirtual 63, 3) := by decide +kernel
theorem dX6_set_5 : decode fX6_set.2.1 5 = .ok (.ifCond .ne 6, 3) := by decide +kernel
theorem dX6_set_8 : decode fX6_set.2.1 8 = .ok (.ldc 58, 2) := by decide +kernel
theorem dX6_set_10 : decode fX6_set.2.1 10 = .ok (.ireturn, 1) := by decide +kernel
theorem dX6_set_11 : decode fX6_set.2.1 11 = .ok (.aload_n 0, 1) := by decide +kernel
theorem dX6_set_12 : decode fX6_set.2.1 12 = .ok (.getfield 10, 3) := by decide +kernel
theorem dX6_set_15 : decode fX6_set.2.1 15 = .ok (.getfield 66, 3) := by decide +kernel
theorem dX6_set_18 : decode fX6_set.2.1 18 = .ok (.iload_n 1, 1) := by decide +kernel
theorem dX6_set_19 : decode fX6_set.2.1 19 = .ok (.aaload, 1) := by decide +kernel
theorem dX6_set_20 : decode fX6_set.2.1 20 = .ok (.astore 4, 2) := by decide +kernel
theorem dX6_set_22 : decode fX6_set.2.1 22 = .ok (.ldc 58, 2) := by decide +kernel
theorem dX6_set_24 : decode fX6_set.2.1 24 = .ok (.istore 5, 2) := by decide +kernel
theorem dX6_set_26 : decode fX6_set.2.1 26 = .ok (.iload_n 2, 1) := by decide +kernel
theorem dX6_set_27 : decode fX6_set.2.1 27 = .ok (.iconst 1, 1) := by decide +kernel
theorem dX6_set_28 : decode fX6_set.2.1 28 = .ok (.if_icmp .ne 26, 3) := by decide +kernel
theorem dX6_set_31 : decode fX6_set.2.1 31 = .ok (.iload_n 3, 1) := by decide +kernel
theorem dX6_set_32 : decode fX6_set.2.1 32 = .ok (.invokestatic 54, 3) := by decide +kernel
theorem dX6_set_35 : decode fX6_set.2.1 35 = .ok (.ifCond .eq 19, 3) := by decide +kernel
theorem dX6_set_38 : decode fX6_set.2.1 38 = .ok (.aload 4, 2) := by decide +kernel
theorem dX6_set_40 : decode fX6_set.2.1 40 = .ok (.getfield 76, 3) := by decide +kernel
theorem dX6_set_43 : decode fX6_set.2.1 43 = .ok (.istore 5, 2) := by decide +kernel
theorem dX6_set_45 : decode fX6_set.2.1 45 = .ok (.aload 4, 2) := by decide +kernel
theorem dX6_set_47 : decode fX6_set.2.1 47 = .ok (.iload_n 3, 1) := by decide +kernel
theorem dX6_set_48 : decode fX6_set.2.1 48 = .ok (.putfield 76, 3) := by decide +kernel
theorem dX6_set_51 : decode fX6_set.2.1 51 = .ok (.goto 95, 3) := by decide +kernel
theorem dX6_set_54 : decode fX6_set.2.1 54 = .ok (.iload_n 2, 1) := by decide +kernel
theorem dX6_set_55 : decode fX6_set.2.1 55 = .ok (.iconst 2, 1) := by decide +kernel
theorem dX6_set_56 : decode fX6_set.2.1 56 = .ok (.if_icmp .ne 29, 3) := by decide +kernel
theorem dX6_set_59 : decode fX6_set.2.1 59 = .ok (.iload_n 3, 1) := by decide +kernel
theorem dX6_set_60 : decode fX6_set.2.1 60 = .ok (.iconst 1, 1) := by decide +kernel
theorem dX6_set_61 : decode fX6_set.2.1 61 = .ok (.bipush 12, 2) := by decide +kernel
theorem dX6_set_63 : decode fX6_set.2.1 63 = .ok (.invokestatic 50, 3) := by decide +kernel
theorem dX6_set_66 : decode fX6_set.2.1 66 = .ok (.ifCond .eq 19, 3) := by decide +kernel
theorem dX6_set_69 : decode fX6_set.2.1 69 = .ok (.aload 4, 2) := by decide +kernel
theorem dX6_set_71 : decode fX6_set.2.1 71 = .ok (.getfield 79, 3) := by decide +kernel
theorem dX6_set_74 : decode fX6_set.2.1 74 = .ok (.istore 5, 2) := by decide +kernel
theorem dX6_set_76 : decode fX6_set.2.1 76 = .ok (.aload 4, 2) := by decide +kernel
theorem dX6_set_78 : decode fX6_set.2.1 78 = .ok (.iload_n 3, 1) := by decide +kernel
theorem dX6_set_79 : decode fX6_set.2.1 79 = .ok (.putfield 79, 3) := by decide +kernel
theorem dX6_set_82 : decode fX6_set.2.1 82 = .ok (.goto 64, 3) := by decide +kernel
theorem dX6_set_85 : decode fX6_set.2.1 85 = .ok (.iload_n 2, 1) := by decide +kernel
theorem dX6_set_86 : decode fX6_set.2.1 86 = .ok (.iconst 3, 1) := by decide +kernel
theorem dX6_set_87 : decode fX6_set.2.1 87 = .ok (.if_icmp .ne 30, 3) := by decide +kernel
theorem dX6_set_90 : decode fX6_set.2.1 90 = .ok (.iload_n 3, 1) := by decide +kernel
theorem dX6_set_91 : decode fX6_set.2.1 91 = .ok (.iconst 0, 1) := by decide +kernel
theorem dX6_set_92 : decode fX6_set.2.1 92 = .ok (.sipush 9999, 3) := by decide +kernel
theorem dX6_set_95 : decode fX6_set.2.1 95 = .ok (.invokestatic 50, 3) := by decide +kernel
theorem dX6_set_98 : decode fX6_set.2.1 98 = .ok (.ifCond .eq 19, 3) := by decide +kernel
theorem dX6_set_101 : decode fX6_set.2.1 101 = .ok (.aload 4, 2) := by decide +kernel
theorem dX6_set_103 : decode fX6_set.2.1 103 = .ok (.getfield 82, 3) := by decide +kernel
theorem dX6_set_106 : decode fX6_set.2.1 106 = .ok (.istore 5, 2) := by decide +kernel
theorem dX6_set_108 : decode fX6_set.2.1 108 = .ok (.aload 4, 2) := by decide +kernel
theorem dX6_set_110 : decode fX6_set.2.1 110 = .ok (.iload_n 3, 1) := by decide +kernel
theorem dX6_set_111 : decode fX6_set.2.1 111 = .ok (.putfield 82, 3) := by decide +kernel
theorem dX6_set_114 : decode fX6_set.2.1 114 = .ok (.goto 32, 3) := by decide +kernel
theorem dX6_set_117 : decode fX6_set.2.1 117 = .ok (.iload_n 2, 1) := by decide +kernel
theorem dX6_set_118 : decode fX6_set.2.1 118 = .ok (.iconst 4, 1) := by decide +kernel
theorem dX6_set_119 : decode fX6_set.2.1 119 = .ok (.if_icmp .ne 27, 3) := by decide +kernel
theorem dX6_set_122 : decode fX6_set.2.1 122 = .ok (.iload_n 3, 1) := by decide +kernel
theorem dX6_set_123 : decode fX6_set.2.1 123 = .ok (.iconst 0, 1) := by decide +kernel
theorem dX6_set_124 : decode fX6_set.2.1 124 = .ok (.sipush 9999, 3) := by decide +kernel
theorem dX6_set_127 : decode fX6_set.2.1 127 = .ok (.invokestatic 50, 3) := by decide +kernel
theorem dX6_set_130 : decode fX6_set.2.1 130 = .ok (.ifCond .eq 16, 3) := by decide +kernel
theorem dX6_set_133 : decode fX6_set.2.1 133 = .ok (.aload 4, 2) := by decide +kernel
theorem dX6_set_135 : decode fX6_set.2.1 135 = .ok (.getfield 85, 3) := by decide +kernel
theorem dX6_set_138 : decode fX6_set.2.1 138 = .ok (.istore 5, 2) := by decide +kernel
theorem dX6_set_140 : decode fX6_set.2.1 140 = .ok (.aload 4, 2) := by decide +kernel
theorem dX6_set_142 : decode fX6_set.2.1 142 = .ok (.iload_n 3, 1) := by decide +kernel
theorem dX6_set_143 : decode fX6_set.2.1 143 = .ok (.putfield 85, 3) := by decide +kernel
theorem dX6_set_146 : decode fX6_set.2.1 146 = .ok (.iload 5, 2) := by decide +kernel
theorem dX6_set_148 : decode fX6_set.2.1 148 = .ok (.ireturn, 1) := by decide +kernel
set_option maxRecDepth 100000 in
set_option maxHeartbeats 4000000 in
theorem ok_X6_set {X : Xb} {S : Sg} {mi : Mem} {x n : Nat} {A : Nat → Int32} {v w y : Int32} (hX : AsA S x) (hn8 : n ≤ 8) (hA : eqOn (26 + 5 * n) (tv mi (x + 1)) A) (hn : A 1 = nI n) : Ok 2 0 0 fX6_set X [rf X x, .int v, .int w, .int y] S mi (PS S mi x (sSet A n v w y)) := by
  refine Ok.go [some (rf X x), some (.int v), some (.int w), some (.int y), none, none] (by decide) (by simp [Value.category]) (Nat.le_of_ble_eq_true rfl) rfl ?_
  obtain ⟨k_x, ⟨r_x_now, t_now⟩, ⟨r_x_thought, t_thought⟩, ⟨r_x_image, t_image⟩, ⟨r_x_tape, t_tape⟩, ⟨r_x_sheets, k_x_sheets⟩, ⟨r_x_slots, k_x_slots⟩, ⟨r_x_waiting, k_x_waiting⟩, ⟨r_x_diff, k_x_diff⟩, a_sheets, a_slots⟩ := id hX
  obtain ⟨k_t, ⟨r_t_home, k_t_home⟩, ⟨r_t_price, k_t_price⟩, ⟨r_t_attics, k_t_attics⟩, ⟨r_t_texts, k_t_texts⟩, ⟨r_t_counting, k_t_counting⟩, ⟨r_t_names, k_t_names⟩, ⟨r_t_pile, k_t_pile⟩, ⟨r_t_views, k_t_views⟩, a_t⟩ := id t_now
  have ec : mi (x + 1) 3 = nI n := by rw [show (3 : Nat) = tvF 1 from rfl, tv_0 hA (by decide) (by omega), hn]
  have z := Fr1.rf (x + 1) mi
  have c1 : (1 : Int32).toNatClampNeg = 1 := by decide
  have c2 : (2 : Int32).toNatClampNeg = 2 := by decide
  have c3 : (3 : Int32).toNatClampNeg = 3 := by decide
  have c4 : (4 : Int32).toNatClampNeg = 4 := by decide
  refine mw_aload_n dX6_set_0 rfl ?_
  refine mw_iload_n dX6_set_1 rfl ?_
  refine mw_cVI (g := fX6_isAttic) dX6_set_2 ml_X6_63 mfX6_isAttic (ok_X6_isAttic hX ec) (by assumption) rfl rfl (Nat.le_of_ble_eq_true rfl) ⟨by decide, by decide⟩ ⟨by decide, by decide⟩ ?_
  refine mw_if_neB (tgt := 11) dX6_set_5 (by decide) (fun h5 => ?_) (fun h5 => ?_)
  · skip
    obtain ⟨a, han, rfl⟩ := inAt h5 hn8
    have hka := (a_t a (by omega)).2
    have ecl : (nI a).toNatClampNeg = a := nI_clamp (by omega)
    have eq1 := tv_A (a := a) (f := 1) hA (by decide) (by omega)
    have eq2 := tv_A (a := a) (f := 2) hA (by decide) (by omega)
    have eq3 := tv_A (a := a) (f := 3) hA (by decide) (by omega)
    have eq4 := tv_A (a := a) (f := 4) hA (by decide) (by omega)
    refine mw_aload_n dX6_set_11 rfl ?_
    refine mw_getr dX6_set_12 fl_X6_10 rfl (by assumption) (by assumption) ?_
    refine mw_getr dX6_set_15 fl_X6_66 rfl (by assumption) (by assumption) ?_
    refine mw_iload_n dX6_set_18 rfl ?_
    refine mw_aldK (k := a) dX6_set_19 (by assumption) (by decide) (rfl) (by omega) (by decide) ((a_t a (by omega)).1) ?_
    refine mw_astore dX6_set_20 (by decide) ?_
    refine mw_ldc dX6_set_22 cn_X6_58 ?_
    refine mw_istore dX6_set_24 (by decide) ?_
    refine mw_iload_n dX6_set_26 rfl ?_
    refine mw_iconst (v := 1) dX6_set_27 (by decide) ?_
    refine mw_icmp_ne (tgt := 54) dX6_set_28 (by decide) (fun h28 => ?_) (fun h28 => ?_)
    · skip
      refine mw_iload_n dX6_set_54 rfl ?_
      refine mw_iconst (v := 2) dX6_set_55 (by decide) ?_
      refine mw_icmp_ne (tgt := 85) dX6_set_56 (by decide) (fun h56 => ?_) (fun h56 => ?_)
      · skip
        refine mw_iload_n dX6_set_85 rfl ?_
        refine mw_iconst (v := 3) dX6_set_86 (by decide) ?_
        refine mw_icmp_ne (tgt := 117) dX6_set_87 (by decide) (fun h87 => ?_) (fun h87 => ?_)
        · skip
          refine mw_iload_n dX6_set_117 rfl ?_
          refine mw_iconst (v := 4) dX6_set_118 (by decide) ?_
          refine mw_icmp_ne (tgt := 146) dX6_set_119 (by decide) (fun h119 => ?_) (fun h119 => ?_)
          · skip
            refine mw_iload dX6_set_146 rfl ?_
            exact mw_iret dX6_set_148 rfl (by decide) (by decide) (by
  rw [sSet, if_pos h5, ecl]
  first
  | (subst h28; rw [if_pos (by grind), c1]; exact ⟨by rw [eq1], rfl, tv_upA (by omega) (by decide) hA, z.up (by omega)⟩)
  | (subst h56; rw [if_pos (by grind), c2]; exact ⟨by rw [eq2], rfl, tv_upA (by omega) (by decide) hA, z.up (by omega)⟩)
  | (subst h87; rw [if_pos (by grind), c3]; exact ⟨by rw [eq3], rfl, tv_upA (by omega) (by decide) hA, z.up (by omega)⟩)
  | (subst h119; rw [if_pos (by grind), c4]; exact ⟨by rw [eq4], rfl, tv_upA (by omega) (by decide) hA, z.up (by omega)⟩)
  | (rw [if_neg (by grind)]; exact ⟨rfl, rfl, hA, z⟩))
          · skip
            refine mw_iload_n dX6_set_122 rfl ?_
            refine mw_iconst (v := 0) dX6_set_123 (by decide) ?_
            refine mw_sipush (v := 9999) dX6_set_124 (by decide) ?_
            refine mw_cSI (g := fX6_within) dX6_set_127 ml_X6_50 mfX6_within (ok_X6_within) rfl rfl (Nat.le_of_ble_eq_true rfl) ⟨by decide, by decide⟩ ⟨by decide, by decide⟩ ?_
            refine mw_if_eqB (tgt := 146) dX6_set_130 (by decide) (fun h130 => ?_) (fun h130 => ?_)
            · skip
              refine mw_iload dX6_set_146 rfl ?_
              exact mw_iret dX6_set_148 rfl (by decide) (by decide) (by
  rw [sSet, if_pos h5, ecl]
  first
  | (subst h28; rw [if_pos (by grind), c1]; exact ⟨by rw [eq1], rfl, tv_upA (by omega) (by decide) hA, z.up (by omega)⟩)
  | (subst h56; rw [if_pos (by grind), c2]; exact ⟨by rw [eq2], rfl, tv_upA (by omega) (by decide) hA, z.up (by omega)⟩)
  | (subst h87; rw [if_pos (by grind), c3]; exact ⟨by rw [eq3], rfl, tv_upA (by omega) (by decide) hA, z.up (by omega)⟩)
  | (subst h119; rw [if_pos (by grind), c4]; exact ⟨by rw [eq4], rfl, tv_upA (by omega) (by decide) hA, z.up (by omega)⟩)
  | (rw [if_neg (by grind)]; exact ⟨rfl, rfl, hA, z⟩))
            · skip
              refine mw_aload dX6_set_133 rfl ?_
              refine mw_geti dX6_set_135 fl_X6_85 rfl (by assumption) ?_
              refine mw_istore dX6_set_138 (by decide) ?_
              refine mw_aload dX6_set_140 rfl ?_
              refine mw_iload_n dX6_set_142 rfl ?_
              refine mw_puti dX6_set_143 fl_X6_85 ft_0_4 rfl (rfl) rfl (by assumption) ?_
              refine mw_iload dX6_set_146 rfl ?_
              exact mw_iret dX6_set_148 rfl (by decide) (by decide) (by
  rw [sSet, if_pos h5, ecl]
  first
  | (subst h28; rw [if_pos (by grind), c1]; exact ⟨by rw [eq1], rfl, tv_upA (by omega) (by decide) hA, z.up (by omega)⟩)
  | (subst h56; rw [if_pos (by grind), c2]; exact ⟨by rw [eq2], rfl, tv_upA (by omega) (by decide) hA, z.up (by omega)⟩)
  | (subst h87; rw [if_pos (by grind), c3]; exact ⟨by rw [eq3], rfl, tv_upA (by omega) (by decide) hA, z.up (by omega)⟩)
  | (subst h119; rw [if_pos (by grind), c4]; exact ⟨by rw [eq4], rfl, tv_upA (by omega) (by decide) hA, z.up (by omega)⟩)
  | (rw [if_neg (by grind)]; exact ⟨rfl, rfl, hA, z⟩))
        · skip
          refine mw_iload_n dX6_set_90 rfl ?_
          refine mw_iconst (v := 0) dX6_set_91 (by decide) ?_
          refine mw_sipush (v := 9999) dX6_set_92 (by decide) ?_
          refine mw_cSI (g := fX6_within) dX6_set_95 ml_X6_50 mfX6_within (ok_X6_within) rfl rfl (Nat.le_of_ble_eq_true rfl) ⟨by decide, by decide⟩ ⟨by decide, by decide⟩ ?_
          refine mw_if_eqB (tgt := 117) dX6_set_98 (by decide) (fun h98 => ?_) (fun h98 => ?_)
          · skip
            refine mw_iload_n dX6_set_117 rfl ?_
            refine mw_iconst (v := 4) dX6_set_118 (by decide) ?_
            refine mw_icmp_ne (tgt := 146) dX6_set_119 (by decide) (fun h119 => ?_) (fun h119 => ?_)
            · skip
              refine mw_iload dX6_set_146 rfl ?_
              exact mw_iret dX6_set_148 rfl (by decide) (by decide) (by
  rw [sSet, if_pos h5, ecl]
  first
  | (subst h28; rw [if_pos (by grind), c1]; exact ⟨by rw [eq1], rfl, tv_upA (by omega) (by decide) hA, z.up (by omega)⟩)
  | (subst h56; rw [if_pos (by grind), c2]; exact ⟨by rw [eq2], rfl, tv_upA (by omega) (by decide) hA, z.up (by omega)⟩)
  | (subst h87; rw [if_pos (by grind), c3]; exact ⟨by rw [eq3], rfl, tv_upA (by omega) (by decide) hA, z.up (by omega)⟩)
  | (subst h119; rw [if_pos (by grind), c4]; exact ⟨by rw [eq4], rfl, tv_upA (by omega) (by decide) hA, z.up (by omega)⟩)
  | (rw [if_neg (by grind)]; exact ⟨rfl, rfl, hA, z⟩))
            · skip
              refine mw_iload_n dX6_set_122 rfl ?_
              refine mw_iconst (v := 0) dX6_set_123 (by decide) ?_
              refine mw_sipush (v := 9999) dX6_set_124 (by decide) ?_
              refine mw_cSI (g := fX6_within) dX6_set_127 ml_X6_50 mfX6_within (ok_X6_within) rfl rfl (Nat.le_of_ble_eq_true rfl) ⟨by decide, by decide⟩ ⟨by decide, by decide⟩ ?_
              refine mw_if_eqB (tgt := 146) dX6_set_130 (by decide) (fun h130 => ?_) (fun h130 => ?_)
              · skip
                refine mw_iload dX6_set_146 rfl ?_
                exact mw_iret dX6_set_148 rfl (by decide) (by decide) (by
  rw [sSet, if_pos h5, ecl]
  first
  | (subst h28; rw [if_pos (by grind), c1]; exact ⟨by rw [eq1], rfl, tv_upA (by omega) (by decide) hA, z.up (by omega)⟩)
  | (subst h56; rw [if_pos (by grind), c2]; exact ⟨by rw [eq2], rfl, tv_upA (by omega) (by decide) hA, z.up (by omega)⟩)
  | (subst h87; rw [if_pos (by grind), c3]; exact ⟨by rw [eq3], rfl, tv_upA (by omega) (by decide) hA, z.up (by omega)⟩)
  | (subst h119; rw [if_pos (by grind), c4]; exact ⟨by rw [eq4], rfl, tv_upA (by omega) (by decide) hA, z.up (by omega)⟩)
  | (rw [if_neg (by grind)]; exact ⟨rfl, rfl, hA, z⟩))
              · skip
                refine mw_aload dX6_set_133 rfl ?_
                refine mw_geti dX6_set_135 fl_X6_85 rfl (by assumption) ?_
                refine mw_istore dX6_set_138 (by decide) ?_
                refine mw_aload dX6_set_140 rfl ?_
                refine mw_iload_n dX6_set_142 rfl ?_
                refine mw_puti dX6_set_143 fl_X6_85 ft_0_4 rfl (rfl) rfl (by assumption) ?_
                refine mw_iload dX6_set_146 rfl ?_
                exact mw_iret dX6_set_148 rfl (by decide) (by decide) (by
  rw [sSet, if_pos h5, ecl]
  first
  | (subst h28; rw [if_pos (by grind), c1]; exact ⟨by rw [eq1], rfl, tv_upA (by omega) (by decide) hA, z.up (by omega)⟩)
  | (subst h56; rw [if_pos (by grind), c2]; exact ⟨by rw [eq2], rfl, tv_upA (by omega) (by decide) hA, z.up (by omega)⟩)
  | (subst h87; rw [if_pos (by grind), c3]; exact ⟨by rw [eq3], rfl, tv_upA (by omega) (by decide) hA, z.up (by omega)⟩)
  | (subst h119; rw [if_pos (by grind), c4]; exact ⟨by rw [eq4], rfl, tv_upA (by omega) (by decide) hA, z.up (by omega)⟩)
  | (rw [if_neg (by grind)]; exact ⟨rfl, rfl, hA, z⟩))
          · skip
            refine mw_aload dX6_set_101 rfl ?_
            refine mw_geti dX6_set_103 fl_X6_82 rfl (by assumption) ?_
            refine mw_istore dX6_set_106 (by decide) ?_
            refine mw_aload dX6_set_108 rfl ?_
            refine mw_iload_n dX6_set_110 rfl ?_
            refine mw_puti dX6_set_111 fl_X6_82 ft_0_3 rfl (rfl) rfl (by assumption) ?_
            refine mw_goto (tgt := 146) dX6_set_114 (by decide) ?_
            refine mw_iload dX6_set_146 rfl ?_
            exact mw_iret dX6_set_148 rfl (by decide) (by decide) (by
  rw [sSet, if_pos h5, ecl]
  first
  | (subst h28; rw [if_pos (by grind), c1]; exact ⟨by rw [eq1], rfl, tv_upA (by omega) (by decide) hA, z.up (by omega)⟩)
  | (subst h56; rw [if_pos (by grind), c2]; exact ⟨by rw [eq2], rfl, tv_upA (by omega) (by decide) hA, z.up (by omega)⟩)
  | (subst h87; rw [if_pos (by grind), c3]; exact ⟨by rw [eq3], rfl, tv_upA (by omega) (by decide) hA, z.up (by omega)⟩)
  | (subst h119; rw [if_pos (by grind), c4]; exact ⟨by rw [eq4], rfl, tv_upA (by omega) (by decide) hA, z.up (by omega)⟩)
  | (rw [if_neg (by grind)]; exact ⟨rfl, rfl, hA, z⟩))
      · skip
        refine mw_iload_n dX6_set_59 rfl ?_
        refine mw_iconst (v := 1) dX6_set_60 (by decide) ?_
        refine mw_bipush (v := 12) dX6_set_61 (by decide) ?_
        refine mw_cSI (g := fX6_within) dX6_set_63 ml_X6_50 mfX6_within (ok_X6_within) rfl rfl (Nat.le_of_ble_eq_true rfl) ⟨by decide, by decide⟩ ⟨by decide, by decide⟩ ?_
        refine mw_if_eqB (tgt := 85) dX6_set_66 (by decide) (fun h66 => ?_) (fun h66 => ?_)
        · skip
          refine mw_iload_n dX6_set_85 rfl ?_
          refine mw_iconst (v := 3) dX6_set_86 (by decide) ?_
          refine mw_icmp_ne (tgt := 117) dX6_set_87 (by decide) (fun h87 => ?_) (fun h87 => ?_)
          · skip
            refine mw_iload_n dX6_set_117 rfl ?_
            refine mw_iconst (v := 4) dX6_set_118 (by decide) ?_
            refine mw_icmp_ne (tgt := 146) dX6_set_119 (by decide) (fun h119 => ?_) (fun h119 => ?_)
            · skip
              refine mw_iload dX6_set_146 rfl ?_
              exact mw_iret dX6_set_148 rfl (by decide) (by decide) (by
  rw [sSet, if_pos h5, ecl]
  first
  | (subst h28; rw [if_pos (by grind), c1]; exact ⟨by rw [eq1], rfl, tv_upA (by omega) (by decide) hA, z.up (by omega)⟩)
  | (subst h56; rw [if_pos (by grind), c2]; exact ⟨by rw [eq2], rfl, tv_upA (by omega) (by decide) hA, z.up (by omega)⟩)
  | (subst h87; rw [if_pos (by grind), c3]; exact ⟨by rw [eq3], rfl, tv_upA (by omega) (by decide) hA, z.up (by omega)⟩)
  | (subst h119; rw [if_pos (by grind), c4]; exact ⟨by rw [eq4], rfl, tv_upA (by omega) (by decide) hA, z.up (by omega)⟩)
  | (rw [if_neg (by grind)]; exact ⟨rfl, rfl, hA, z⟩))
            · skip
              refine mw_iload_n dX6_set_122 rfl ?_
              refine mw_iconst (v := 0) dX6_set_123 (by decide) ?_
              refine mw_sipush (v := 9999) dX6_set_124 (by decide) ?_
              refine mw_cSI (g := fX6_within) dX6_set_127 ml_X6_50 mfX6_within (ok_X6_within) rfl rfl (Nat.le_of_ble_eq_true rfl) ⟨by decide, by decide⟩ ⟨by decide, by decide⟩ ?_
              refine mw_if_eqB (tgt := 146) dX6_set_130 (by decide) (fun h130 => ?_) (fun h130 => ?_)
              · skip
                refine mw_iload dX6_set_146 rfl ?_
                exact mw_iret dX6_set_148 rfl (by decide) (by decide) (by
  rw [sSet, if_pos h5, ecl]
  first
  | (subst h28; rw [if_pos (by grind), c1]; exact ⟨by rw [eq1], rfl, tv_upA (by omega) (by decide) hA, z.up (by omega)⟩)
  | (subst h56; rw [if_pos (by grind), c2]; exact ⟨by rw [eq2], rfl, tv_upA (by omega) (by decide) hA, z.up (by omega)⟩)
  | (subst h87; rw [if_pos (by grind), c3]; exact ⟨by rw [eq3], rfl, tv_upA (by omega) (by decide) hA, z.up (by omega)⟩)
  | (subst h119; rw [if_pos (by grind), c4]; exact ⟨by rw [eq4], rfl, tv_upA (by omega) (by decide) hA, z.up (by omega)⟩)
  | (rw [if_neg (by grind)]; exact ⟨rfl, rfl, hA, z⟩))
              · skip
                refine mw_aload dX6_set_133 rfl ?_
                refine mw_geti dX6_set_135 fl_X6_85 rfl (by assumption) ?_
                refine mw_istore dX6_set_138 (by decide) ?_
                refine mw_aload dX6_set_140 rfl ?_
                refine mw_iload_n dX6_set_142 rfl ?_
                refine mw_puti dX6_set_143 fl_X6_85 ft_0_4 rfl (rfl) rfl (by assumption) ?_
                refine mw_iload dX6_set_146 rfl ?_
                exact mw_iret dX6_set_148 rfl (by decide) (by decide) (by
  rw [sSet, if_pos h5, ecl]
  first
  | (subst h28; rw [if_pos (by grind), c1]; exact ⟨by rw [eq1], rfl, tv_upA (by omega) (by decide) hA, z.up (by omega)⟩)
  | (subst h56; rw [if_pos (by grind), c2]; exact ⟨by rw [eq2], rfl, tv_upA (by omega) (by decide) hA, z.up (by omega)⟩)
  | (subst h87; rw [if_pos (by grind), c3]; exact ⟨by rw [eq3], rfl, tv_upA (by omega) (by decide) hA, z.up (by omega)⟩)
  | (subst h119; rw [if_pos (by grind), c4]; exact ⟨by rw [eq4], rfl, tv_upA (by omega) (by decide) hA, z.up (by omega)⟩)
  | (rw [if_neg (by grind)]; exact ⟨rfl, rfl, hA, z⟩))
          · skip
            refine mw_iload_n dX6_set_90 rfl ?_
            refine mw_iconst (v := 0) dX6_set_91 (by decide) ?_
            refine mw_sipush (v := 9999) dX6_set_92 (by decide) ?_
            refine mw_cSI (g := fX6_within) dX6_set_95 ml_X6_50 mfX6_within (ok_X6_within) rfl rfl (Nat.le_of_ble_eq_true rfl) ⟨by decide, by decide⟩ ⟨by decide, by decide⟩ ?_
            refine mw_if_eqB (tgt := 117) dX6_set_98 (by decide) (fun h98 => ?_) (fun h98 => ?_)
            · skip
              refine mw_iload_n dX6_set_117 rfl ?_
              refine mw_iconst (v := 4) dX6_set_118 (by decide) ?_
              refine mw_icmp_ne (tgt := 146) dX6_set_119 (by decide) (fun h119 => ?_) (fun h119 => ?_)
              · skip
                refine mw_iload dX6_set_146 rfl ?_
                exact mw_iret dX6_set_148 rfl (by decide) (by decide) (by
  rw [sSet, if_pos h5, ecl]
  first
  | (subst h28; rw [if_pos (by grind), c1]; exact ⟨by rw [eq1], rfl, tv_upA (by omega) (by decide) hA, z.up (by omega)⟩)
  | (subst h56; rw [if_pos (by grind), c2]; exact ⟨by rw [eq2], rfl, tv_upA (by omega) (by decide) hA, z.up (by omega)⟩)
  | (subst h87; rw [if_pos (by grind), c3]; exact ⟨by rw [eq3], rfl, tv_upA (by omega) (by decide) hA, z.up (by omega)⟩)
  | (subst h119; rw [if_pos (by grind), c4]; exact ⟨by rw [eq4], rfl, tv_upA (by omega) (by decide) hA, z.up (by omega)⟩)
  | (rw [if_neg (by grind)]; exact ⟨rfl, rfl, hA, z⟩))
              · skip
                refine mw_iload_n dX6_set_122 rfl ?_
                refine mw_iconst (v := 0) dX6_set_123 (by decide) ?_
                refine mw_sipush (v := 9999) dX6_set_124 (by decide) ?_
                refine mw_cSI (g := fX6_within) dX6_set_127 ml_X6_50 mfX6_within (ok_X6_within) rfl rfl (Nat.le_of_ble_eq_true rfl) ⟨by decide, by decide⟩ ⟨by decide, by decide⟩ ?_
                refine mw_if_eqB (tgt := 146) dX6_set_130 (by decide) (fun h130 => ?_) (fun h130 => ?_)
                · skip
                  refine mw_iload dX6_set_146 rfl ?_
                  exact mw_iret dX6_set_148 rfl (by decide) (by decide) (by
  rw [sSet, if_pos h5, ecl]
  first
  | (subst h28; rw [if_pos (by grind), c1]; exact ⟨by rw [eq1], rfl, tv_upA (by omega) (by decide) hA, z.up (by omega)⟩)
  | (subst h56; rw [if_pos (by grind), c2]; exact ⟨by rw [eq2], rfl, tv_upA (by omega) (by decide) hA, z.up (by omega)⟩)
  | (subst h87; rw [if_pos (by grind), c3]; exact ⟨by rw [eq3], rfl, tv_upA (by omega) (by decide) hA, z.up (by omega)⟩)
  | (subst h119; rw [if_pos (by grind), c4]; exact ⟨by rw [eq4], rfl, tv_upA (by omega) (by decide) hA, z.up (by omega)⟩)
  | (rw [if_neg (by grind)]; exact ⟨rfl, rfl, hA, z⟩))
                · skip
                  refine mw_aload dX6_set_133 rfl ?_
                  refine mw_geti dX6_set_135 fl_X6_85 rfl (by assumption) ?_
                  refine mw_istore dX6_set_138 (by decide) ?_
                  refine mw_aload dX6_set_140 rfl ?_
                  refine mw_iload_n dX6_set_142 rfl ?_
                  refine mw_puti dX6_set_143 fl_X6_85 ft_0_4 rfl (rfl) rfl (by assumption) ?_
                  refine mw_iload dX6_set_146 rfl ?_
                  exact mw_iret dX6_set_148 rfl (by decide) (by decide) (by
  rw [sSet, if_pos h5, ecl]
  first
  | (subst h28; rw [if_pos (by grind), c1]; exact ⟨by rw [eq1], rfl, tv_upA (by omega) (by decide) hA, z.up (by omega)⟩)
  | (subst h56; rw [if_pos (by grind), c2]; exact ⟨by rw [eq2], rfl, tv_upA (by omega) (by decide) hA, z.up (by omega)⟩)
  | (subst h87; rw [if_pos (by grind), c3]; exact ⟨by rw [eq3], rfl, tv_upA (by omega) (by decide) hA, z.up (by omega)⟩)
  | (subst h119; rw [if_pos (by grind), c4]; exact ⟨by rw [eq4], rfl, tv_upA (by omega) (by decide) hA, z.up (by omega)⟩)
  | (rw [if_neg (by grind)]; exact ⟨rfl, rfl, hA, z⟩))
            · skip
              refine mw_aload dX6_set_101 rfl ?_
              refine mw_geti dX6_set_103 fl_X6_82 rfl (by assumption) ?_
              refine mw_istore dX6_set_106 (by decide) ?_
              refine mw_aload dX6_set_108 rfl ?_
              refine mw_iload_n dX6_set_110 rfl ?_
              refine mw_puti dX6_set_111 fl_X6_82 ft_0_3 rfl (rfl) rfl (by assumption) ?_
              refine mw_goto (tgt := 146) dX6_set_114 (by decide) ?_
              refine mw_iload dX6_set_146 rfl ?_
              exact mw_iret dX6_set_148 rfl (by decide) (by decide) (by
  rw [sSet, if_pos h5, ecl]
  first
  | (subst h28; rw [if_pos (by grind), c1]; exact ⟨by rw [eq1], rfl, tv_upA (by omega) (by decide) hA, z.up (by omega)⟩)
  | (subst h56; rw [if_pos (by grind), c2]; exact ⟨by rw [eq2], rfl, tv_upA (by omega) (by decide) hA, z.up (by omega)⟩)
  | (subst h87; rw [if_pos (by grind), c3]; exact ⟨by rw [eq3], rfl, tv_upA (by omega) (by decide) hA, z.up (by omega)⟩)
  | (subst h119; rw [if_pos (by grind), c4]; exact ⟨by rw [eq4], rfl, tv_upA (by omega) (by decide) hA, z.up (by omega)⟩)
  | (rw [if_neg (by grind)]; exact ⟨rfl, rfl, hA, z⟩))
        · skip
          refine mw_aload dX6_set_69 rfl ?_
          refine mw_geti dX6_set_71 fl_X6_79 rfl (by assumption) ?_
          refine mw_istore dX6_set_74 (by decide) ?_
          refine mw_aload dX6_set_76 rfl ?_
          refine mw_iload_n dX6_set_78 rfl ?_
          refine mw_puti dX6_set_79 fl_X6_79 ft_0_2 rfl (rfl) rfl (by assumption) ?_
          refine mw_goto (tgt := 146) dX6_set_82 (by decide) ?_
          refine mw_iload dX6_set_146 rfl ?_
          exact mw_iret dX6_set_148 rfl (by decide) (by decide) (by
  rw [sSet, if_pos h5, ecl]
  first
  | (subst h28; rw [if_pos (by grind), c1]; exact ⟨by rw [eq1], rfl, tv_upA (by omega) (by decide) hA, z.up (by omega)⟩)
  | (subst h56; rw [if_pos (by grind), c2]; exact ⟨by rw [eq2], rfl, tv_upA (by omega) (by decide) hA, z.up (by omega)⟩)
  | (subst h87; rw [if_pos (by grind), c3]; exact ⟨by rw [eq3], rfl, tv_upA (by omega) (by decide) hA, z.up (by omega)⟩)
  | (subst h119; rw [if_pos (by grind), c4]; exact ⟨by rw [eq4], rfl, tv_upA (by omega) (by decide) hA, z.up (by omega)⟩)
  | (rw [if_neg (by grind)]; exact ⟨rfl, rfl, hA, z⟩))
    · skip
      refine mw_iload_n dX6_set_31 rfl ?_
      refine mw_cSI (g := fX6_isBearing) dX6_set_32 ml_X6_54 mfX6_isBearing (ok_X6_isBearing) rfl rfl (Nat.le_of_ble_eq_true rfl) ⟨by decide, by decide⟩ ⟨by decide, by decide⟩ ?_
      refine mw_if_eqB (tgt := 54) dX6_set_35 (by decide) (fun h35 => ?_) (fun h35 => ?_)
      · skip
        refine mw_iload_n dX6_set_54 rfl ?_
        refine mw_iconst (v := 2) dX6_set_55 (by decide) ?_
        refine mw_icmp_ne (tgt := 85) dX6_set_56 (by decide) (fun h56 => ?_) (fun h56 => ?_)
        · skip
          refine mw_iload_n dX6_set_85 rfl ?_
          refine mw_iconst (v := 3) dX6_set_86 (by decide) ?_
          refine mw_icmp_ne (tgt := 117) dX6_set_87 (by decide) (fun h87 => ?_) (fun h87 => ?_)
          · skip
            refine mw_iload_n dX6_set_117 rfl ?_
            refine mw_iconst (v := 4) dX6_set_118 (by decide) ?_
            refine mw_icmp_ne (tgt := 146) dX6_set_119 (by decide) (fun h119 => ?_) (fun h119 => ?_)
            · skip
              refine mw_iload dX6_set_146 rfl ?_
              exact mw_iret dX6_set_148 rfl (by decide) (by decide) (by
  rw [sSet, if_pos h5, ecl]
  first
  | (subst h28; rw [if_pos (by grind), c1]; exact ⟨by rw [eq1], rfl, tv_upA (by omega) (by decide) hA, z.up (by omega)⟩)
  | (subst h56; rw [if_pos (by grind), c2]; exact ⟨by rw [eq2], rfl, tv_upA (by omega) (by decide) hA, z.up (by omega)⟩)
  | (subst h87; rw [if_pos (by grind), c3]; exact ⟨by rw [eq3], rfl, tv_upA (by omega) (by decide) hA, z.up (by omega)⟩)
  | (subst h119; rw [if_pos (by grind), c4]; exact ⟨by rw [eq4], rfl, tv_upA (by omega) (by decide) hA, z.up (by omega)⟩)
  | (rw [if_neg (by grind)]; exact ⟨rfl, rfl, hA, z⟩))
            · skip
              refine mw_iload_n dX6_set_122 rfl ?_
              refine mw_iconst (v := 0) dX6_set_123 (by decide) ?_
              refine mw_sipush (v := 9999) dX6_set_124 (by decide) ?_
              refine mw_cSI (g := fX6_within) dX6_set_127 ml_X6_50 mfX6_within (ok_X6_within) rfl rfl (Nat.le_of_ble_eq_true rfl) ⟨by decide, by decide⟩ ⟨by decide, by decide⟩ ?_
              refine mw_if_eqB (tgt := 146) dX6_set_130 (by decide) (fun h130 => ?_) (fun h130 => ?_)
              · skip
                refine mw_iload dX6_set_146 rfl ?_
                exact mw_iret dX6_set_148 rfl (by decide) (by decide) (by
  rw [sSet, if_pos h5, ecl]
  first
  | (subst h28; rw [if_pos (by grind), c1]; exact ⟨by rw [eq1], rfl, tv_upA (by omega) (by decide) hA, z.up (by omega)⟩)
  | (subst h56; rw [if_pos (by grind), c2]; exact ⟨by rw [eq2], rfl, tv_upA (by omega) (by decide) hA, z.up (by omega)⟩)
  | (subst h87; rw [if_pos (by grind), c3]; exact ⟨by rw [eq3], rfl, tv_upA (by omega) (by decide) hA, z.up (by omega)⟩)
  | (subst h119; rw [if_pos (by grind), c4]; exact ⟨by rw [eq4], rfl, tv_upA (by omega) (by decide) hA, z.up (by omega)⟩)
  | (rw [if_neg (by grind)]; exact ⟨rfl, rfl, hA, z⟩))
              · skip
                refine mw_aload dX6_set_133 rfl ?_
                refine mw_geti dX6_set_135 fl_X6_85 rfl (by assumption) ?_
                refine mw_istore dX6_set_138 (by decide) ?_
                refine mw_aload dX6_set_140 rfl ?_
                refine mw_iload_n dX6_set_142 rfl ?_
                refine mw_puti dX6_set_143 fl_X6_85 ft_0_4 rfl (rfl) rfl (by assumption) ?_
                refine mw_iload dX6_set_146 rfl ?_
                exact mw_iret dX6_set_148 rfl (by decide) (by decide) (by
  rw [sSet, if_pos h5, ecl]
  first
  | (subst h28; rw [if_pos (by grind), c1]; exact ⟨by rw [eq1], rfl, tv_upA (by omega) (by decide) hA, z.up (by omega)⟩)
  | (subst h56; rw [if_pos (by grind), c2]; exact ⟨by rw [eq2], rfl, tv_upA (by omega) (by decide) hA, z.up (by omega)⟩)
  | (subst h87; rw [if_pos (by grind), c3]; exact ⟨by rw [eq3], rfl, tv_upA (by omega) (by decide) hA, z.up (by omega)⟩)
  | (subst h119; rw [if_pos (by grind), c4]; exact ⟨by rw [eq4], rfl, tv_upA (by omega) (by decide) hA, z.up (by omega)⟩)
  | (rw [if_neg (by grind)]; exact ⟨rfl, rfl, hA, z⟩))
          · skip
            refine mw_iload_n dX6_set_90 rfl ?_
            refine mw_iconst (v := 0) dX6_set_91 (by decide) ?_
            refine mw_sipush (v := 9999) dX6_set_92 (by decide) ?_
            refine mw_cSI (g := fX6_within) dX6_set_95 ml_X6_50 mfX6_within (ok_X6_within) rfl rfl (Nat.le_of_ble_eq_true rfl) ⟨by decide, by decide⟩ ⟨by decide, by decide⟩ ?_
            refine mw_if_eqB (tgt := 117) dX6_set_98 (by decide) (fun h98 => ?_) (fun h98 => ?_)
            · skip
              refine mw_iload_n dX6_set_117 rfl ?_
              refine mw_iconst (v := 4) dX6_set_118 (by decide) ?_
              refine mw_icmp_ne (tgt := 146) dX6_set_119 (by decide) (fun h119 => ?_) (fun h119 => ?_)
              · skip
                refine mw_iload dX6_set_146 rfl ?_
                exact mw_iret dX6_set_148 rfl (by decide) (by decide) (by
  rw [sSet, if_pos h5, ecl]
  first
  | (subst h28; rw [if_pos (by grind), c1]; exact ⟨by rw [eq1], rfl, tv_upA (by omega) (by decide) hA, z.up (by omega)⟩)
  | (subst h56; rw [if_pos (by grind), c2]; exact ⟨by rw [eq2], rfl, tv_upA (by omega) (by decide) hA, z.up (by omega)⟩)
  | (subst h87; rw [if_pos (by grind), c3]; exact ⟨by rw [eq3], rfl, tv_upA (by omega) (by decide) hA, z.up (by omega)⟩)
  | (subst h119; rw [if_pos (by grind), c4]; exact ⟨by rw [eq4], rfl, tv_upA (by omega) (by decide) hA, z.up (by omega)⟩)
  | (rw [if_neg (by grind)]; exact ⟨rfl, rfl, hA, z⟩))
              · skip
                refine mw_iload_n dX6_set_122 rfl ?_
                refine mw_iconst (v := 0) dX6_set_123 (by decide) ?_
                refine mw_sipush (v := 9999) dX6_set_124 (by decide) ?_
                refine mw_cSI (g := fX6_within) dX6_set_127 ml_X6_50 mfX6_within (ok_X6_within) rfl rfl (Nat.le_of_ble_eq_true rfl) ⟨by decide, by decide⟩ ⟨by decide, by decide⟩ ?_
                refine mw_if_eqB (tgt := 146) dX6_set_130 (by decide) (fun h130 => ?_) (fun h130 => ?_)
                · skip
                  refine mw_iload dX6_set_146 rfl ?_
                  exact mw_iret dX6_set_148 rfl (by decide) (by decide) (by
  rw [sSet, if_pos h5, ecl]
  first
  | (subst h28; rw [if_pos (by grind), c1]; exact ⟨by rw [eq1], rfl, tv_upA (by omega) (by decide) hA, z.up (by omega)⟩)
  | (subst h56; rw [if_pos (by grind), c2]; exact ⟨by rw [eq2], rfl, tv_upA (by omega) (by decide) hA, z.up (by omega)⟩)
  | (subst h87; rw [if_pos (by grind), c3]; exact ⟨by rw [eq3], rfl, tv_upA (by omega) (by decide) hA, z.up (by omega)⟩)
  | (subst h119; rw [if_pos (by grind), c4]; exact ⟨by rw [eq4], rfl, tv_upA (by omega) (by decide) hA, z.up (by omega)⟩)
  | (rw [if_neg (by grind)]; exact ⟨rfl, rfl, hA, z⟩))
                · skip
                  refine mw_aload dX6_set_133 rfl ?_
                  refine mw_geti dX6_set_135 fl_X6_85 rfl (by assumption) ?_
                  refine mw_istore dX6_set_138 (by decide) ?_
                  refine mw_aload dX6_set_140 rfl ?_
                  refine mw_iload_n dX6_set_142 rfl ?_
                  refine mw_puti dX6_set_143 fl_X6_85 ft_0_4 rfl (rfl) rfl (by assumption) ?_
                  refine mw_iload dX6_set_146 rfl ?_
                  exact mw_iret dX6_set_148 rfl (by decide) (by decide) (by
  rw [sSet, if_pos h5, ecl]
  first
  | (subst h28; rw [if_pos (by grind), c1]; exact ⟨by rw [eq1], rfl, tv_upA (by omega) (by decide) hA, z.up (by omega)⟩)
  | (subst h56; rw [if_pos (by grind), c2]; exact ⟨by rw [eq2], rfl, tv_upA (by omega) (by decide) hA, z.up (by omega)⟩)
  | (subst h87; rw [if_pos (by grind), c3]; exact ⟨by rw [eq3], rfl, tv_upA (by omega) (by decide) hA, z.up (by omega)⟩)
  | (subst h119; rw [if_pos (by grind), c4]; exact ⟨by rw [eq4], rfl, tv_upA (by omega) (by decide) hA, z.up (by omega)⟩)
  | (rw [if_neg (by grind)]; exact ⟨rfl, rfl, hA, z⟩))
            · skip
              refine mw_aload dX6_set_101 rfl ?_
              refine mw_geti dX6_set_103 fl_X6_82 rfl (by assumption) ?_
              refine mw_istore dX6_set_106 (by decide) ?_
              refine mw_aload dX6_set_108 rfl ?_
              refine mw_iload_n dX6_set_110 rfl ?_
              refine mw_puti dX6_set_111 fl_X6_82 ft_0_3 rfl (rfl) rfl (by assumption) ?_
              refine mw_goto (tgt := 146) dX6_set_114 (by decide) ?_
              refine mw_iload dX6_set_146 rfl ?_
              exact mw_iret dX6_set_148 rfl (by decide) (by decide) (by
  rw [sSet, if_pos h5, ecl]
  first
  | (subst h28; rw [if_pos (by grind), c1]; exact ⟨by rw [eq1], rfl, tv_upA (by omega) (by decide) hA, z.up (by omega)⟩)
  | (subst h56; rw [if_pos (by grind), c2]; exact ⟨by rw [eq2], rfl, tv_upA (by omega) (by decide) hA, z.up (by omega)⟩)
  | (subst h87; rw [if_pos (by grind), c3]; exact ⟨by rw [eq3], rfl, tv_upA (by omega) (by decide) hA, z.up (by omega)⟩)
  | (subst h119; rw [if_pos (by grind), c4]; exact ⟨by rw [eq4], rfl, tv_upA (by omega) (by decide) hA, z.up (by omega)⟩)
  | (rw [if_neg (by grind)]; exact ⟨rfl, rfl, hA, z⟩))
        · skip
          refine mw_iload_n dX6_set_59 rfl ?_
          refine mw_iconst (v := 1) dX6_set_60 (by decide) ?_
          refine mw_bipush (v := 12) dX6_set_61 (by decide) ?_
          refine mw_cSI (g := fX6_within) dX6_set_63 ml_X6_50 mfX6_within (ok_X6_within) rfl rfl (Nat.le_of_ble_eq_true rfl) ⟨by decide, by decide⟩ ⟨by decide, by decide⟩ ?_
          refine mw_if_eqB (tgt := 85) dX6_set_66 (by decide) (fun h66 => ?_) (fun h66 => ?_)
          · skip
            refine mw_iload_n dX6_set_85 rfl ?_
            refine mw_iconst (v := 3) dX6_set_86 (by decide) ?_
            refine mw_icmp_ne (tgt := 117) dX6_set_87 (by decide) (fun h87 => ?_) (fun h87 => ?_)
            · skip
              refine mw_iload_n dX6_set_117 rfl ?_
              refine mw_iconst (v := 4) dX6_set_118 (by decide) ?_
              refine mw_icmp_ne (tgt := 146) dX6_set_119 (by decide) (fun h119 => ?_) (fun h119 => ?_)
              · skip
                refine mw_iload dX6_set_146 rfl ?_
                exact mw_iret dX6_set_148 rfl (by decide) (by decide) (by
  rw [sSet, if_pos h5, ecl]
  first
  | (subst h28; rw [if_pos (by grind), c1]; exact ⟨by rw [eq1], rfl, tv_upA (by omega) (by decide) hA, z.up (by omega)⟩)
  | (subst h56; rw [if_pos (by grind), c2]; exact ⟨by rw [eq2], rfl, tv_upA (by omega) (by decide) hA, z.up (by omega)⟩)
  | (subst h87; rw [if_pos (by grind), c3]; exact ⟨by rw [eq3], rfl, tv_upA (by omega) (by decide) hA, z.up (by omega)⟩)
  | (subst h119; rw [if_pos (by grind), c4]; exact ⟨by rw [eq4], rfl, tv_upA (by omega) (by decide) hA, z.up (by omega)⟩)
  | (rw [if_neg (by grind)]; exact ⟨rfl, rfl, hA, z⟩))
              · skip
                refine mw_iload_n dX6_set_122 rfl ?_
                refine mw_iconst (v := 0) dX6_set_123 (by decide) ?_
                refine mw_sipush (v := 9999) dX6_set_124 (by decide) ?_
                refine mw_cSI (g := fX6_within) dX6_set_127 ml_X6_50 mfX6_within (ok_X6_within) rfl rfl (Nat.le_of_ble_eq_true rfl) ⟨by decide, by decide⟩ ⟨by decide, by decide⟩ ?_
                refine mw_if_eqB (tgt := 146) dX6_set_130 (by decide) (fun h130 => ?_) (fun h130 => ?_)
                · skip
                  refine mw_iload dX6_set_146 rfl ?_
                  exact mw_iret dX6_set_148 rfl (by decide) (by decide) (by
  rw [sSet, if_pos h5, ecl]
  first
  | (subst h28; rw [if_pos (by grind), c1]; exact ⟨by rw [eq1], rfl, tv_upA (by omega) (by decide) hA, z.up (by omega)⟩)
  | (subst h56; rw [if_pos (by grind), c2]; exact ⟨by rw [eq2], rfl, tv_upA (by omega) (by decide) hA, z.up (by omega)⟩)
  | (subst h87; rw [if_pos (by grind), c3]; exact ⟨by rw [eq3], rfl, tv_upA (by omega) (by decide) hA, z.up (by omega)⟩)
  | (subst h119; rw [if_pos (by grind), c4]; exact ⟨by rw [eq4], rfl, tv_upA (by omega) (by decide) hA, z.up (by omega)⟩)
  | (rw [if_neg (by grind)]; exact ⟨rfl, rfl, hA, z⟩))
                · skip
                  refine mw_aload dX6_set_133 rfl ?_
                  refine mw_geti dX6_set_135 fl_X6_85 rfl (by assumption) ?_
                  refine mw_istore dX6_set_138 (by decide) ?_
                  refine mw_aload dX6_set_140 rfl ?_
                  refine mw_iload_n dX6_set_142 rfl ?_
                  refine mw_puti dX6_set_143 fl_X6_85 ft_0_4 rfl (rfl) rfl (by assumption) ?_
                  refine mw_iload dX6_set_146 rfl ?_
                  exact mw_iret dX6_set_148 rfl (by decide) (by decide) (by
  rw [sSet, if_pos h5, ecl]
  first
  | (subst h28; rw [if_pos (by grind), c1]; exact ⟨by rw [eq1], rfl, tv_upA (by omega) (by decide) hA, z.up (by omega)⟩)
  | (subst h56; rw [if_pos (by grind), c2]; exact ⟨by rw [eq2], rfl, tv_upA (by omega) (by decide) hA, z.up (by omega)⟩)
  | (subst h87; rw [if_pos (by grind), c3]; exact ⟨by rw [eq3], rfl, tv_upA (by omega) (by decide) hA, z.up (by omega)⟩)
  | (subst h119; rw [if_pos (by grind), c4]; exact ⟨by rw [eq4], rfl, tv_upA (by omega) (by decide) hA, z.up (by omega)⟩)
  | (rw [if_neg (by grind)]; exact ⟨rfl, rfl, hA, z⟩))
            · skip
              refine mw_iload_n dX6_set_90 rfl ?_
              refine mw_iconst (v := 0) dX6_set_91 (by decide) ?_
              refine mw_sipush (v := 9999) dX6_set_92 (by decide) ?_
              refine mw_cSI (g := fX6_within) dX6_set_95 ml_X6_50 mfX6_within (ok_X6_within) rfl rfl (Nat.le_of_ble_eq_true rfl) ⟨by decide, by decide⟩ ⟨by decide, by decide⟩ ?_
              refine mw_if_eqB (tgt := 117) dX6_set_98 (by decide) (fun h98 => ?_) (fun h98 => ?_)
              · skip
                refine mw_iload_n dX6_set_117 rfl ?_
                refine mw_iconst (v := 4) dX6_set_118 (by decide) ?_
                refine mw_icmp_ne (tgt := 146) dX6_set_119 (by decide) (fun h119 => ?_) (fun h119 => ?_)
                · skip
                  refine mw_iload dX6_set_146 rfl ?_
                  exact mw_iret dX6_set_148 rfl (by decide) (by decide) (by
  rw [sSet, if_pos h5, ecl]
  first
  | (subst h28; rw [if_pos (by grind), c1]; exact ⟨by rw [eq1], rfl, tv_upA (by omega) (by decide) hA, z.up (by omega)⟩)
  | (subst h56; rw [if_pos (by grind), c2]; exact ⟨by rw [eq2], rfl, tv_upA (by omega) (by decide) hA, z.up (by omega)⟩)
  | (subst h87; rw [if_pos (by grind), c3]; exact ⟨by rw [eq3], rfl, tv_upA (by omega) (by decide) hA, z.up (by omega)⟩)
  | (subst h119; rw [if_pos (by grind), c4]; exact ⟨by rw [eq4], rfl, tv_upA (by omega) (by decide) hA, z.up (by omega)⟩)
  | (rw [if_neg (by grind)]; exact ⟨rfl, rfl, hA, z⟩))
                · skip
                  refine mw_iload_n dX6_set_122 rfl ?_
                  refine mw_iconst (v := 0) dX6_set_123 (by decide) ?_
                  refine mw_sipush (v := 9999) dX6_set_124 (by decide) ?_
                  refine mw_cSI (g := fX6_within) dX6_set_127 ml_X6_50 mfX6_within (ok_X6_within) rfl rfl (Nat.le_of_ble_eq_true rfl) ⟨by decide, by decide⟩ ⟨by decide, by decide⟩ ?_
                  refine mw_if_eqB (tgt := 146) dX6_set_130 (by decide) (fun h130 => ?_) (fun h130 => ?_)
                  · skip
                    refine mw_iload dX6_set_146 rfl ?_
                    exact mw_iret dX6_set_148 rfl (by decide) (by decide) (by
  rw [sSet, if_pos h5, ecl]
  first
  | (subst h28; rw [if_pos (by grind), c1]; exact ⟨by rw [eq1], rfl, tv_upA (by omega) (by decide) hA, z.up (by omega)⟩)
  | (subst h56; rw [if_pos (by grind), c2]; exact ⟨by rw [eq2], rfl, tv_upA (by omega) (by decide) hA, z.up (by omega)⟩)
  | (subst h87; rw [if_pos (by grind), c3]; exact ⟨by rw [eq3], rfl, tv_upA (by omega) (by decide) hA, z.up (by omega)⟩)
  | (subst h119; rw [if_pos (by grind), c4]; exact ⟨by rw [eq4], rfl, tv_upA (by omega) (by decide) hA, z.up (by omega)⟩)
  | (rw [if_neg (by grind)]; exact ⟨rfl, rfl, hA, z⟩))
                  · skip
                    refine mw_aload dX6_set_133 rfl ?_
                    refine mw_geti dX6_set_135 fl_X6_85 rfl (by assumption) ?_
                    refine mw_istore dX6_set_138 (by decide) ?_
                    refine mw_aload dX6_set_140 rfl ?_
                    refine mw_iload_n dX6_set_142 rfl ?_
                    refine mw_puti dX6_set_143 fl_X6_85 ft_0_4 rfl (rfl) rfl (by assumption) ?_
                    refine mw_iload dX6_set_146 rfl ?_
                    exact mw_iret dX6_set_148 rfl (by decide) (by decide) (by
  rw [sSet, if_pos h5, ecl]
  first
  | (subst h28; rw [if_pos (by grind), c1]; exact ⟨by rw [eq1], rfl, tv_upA (by omega) (by decide) hA, z.up (by omega)⟩)
  | (subst h56; rw [if_pos (by grind), c2]; exact ⟨by rw [eq2], rfl, tv_upA (by omega) (by decide) hA, z.up (by omega)⟩)
  | (subst h87; rw [if_pos (by grind), c3]; exact ⟨by rw [eq3], rfl, tv_upA (by omega) (by decide) hA, z.up (by omega)⟩)
  | (subst h119; rw [if_pos (by grind), c4]; exact ⟨by rw [eq4], rfl, tv_upA (by omega) (by decide) hA, z.up (by omega)⟩)
  | (rw [if_neg (by grind)]; exact ⟨rfl, rfl, hA, z⟩))
              · skip
                refine mw_aload dX6_set_101 rfl ?_
                refine mw_geti dX6_set_103 fl_X6_82 rfl (by assumption) ?_
                refine mw_istore dX6_set_106 (by decide) ?_
                refine mw_aload dX6_set_108 rfl ?_
                refine mw_iload_n dX6_set_110 rfl ?_
                refine mw_puti dX6_set_111 fl_X6_82 ft_0_3 rfl (rfl) rfl (by assumption) ?_
                refine mw_goto (tgt := 146) dX6_set_114 (by decide) ?_
                refine mw_iload dX6_set_146 rfl ?_
                exact mw_iret dX6_set_148 rfl (by decide) (by decide) (by
  rw [sSet, if_pos h5, ecl]
  first
  | (subst h28; rw [if_pos (by grind), c1]; exact ⟨by rw [eq1], rfl, tv_upA (by omega) (by decide) hA, z.up (by omega)⟩)
  | (subst h56; rw [if_pos (by grind), c2]; exact ⟨by rw [eq2], rfl, tv_upA (by omega) (by decide) hA, z.up (by omega)⟩)
  | (subst h87; rw [if_pos (by grind), c3]; exact ⟨by rw [eq3], rfl, tv_upA (by omega) (by decide) hA, z.up (by omega)⟩)
  | (subst h119; rw [if_pos (by grind), c4]; exact ⟨by rw [eq4], rfl, tv_upA (by omega) (by decide) hA, z.up (by omega)⟩)
  | (rw [if_neg (by grind)]; exact ⟨rfl, rfl, hA, z⟩))
          · skip
            refine mw_aload dX6_set_69 rfl ?_
            refine mw_geti dX6_set_71 fl_X6_79 rfl (by assumption) ?_
            refine mw_istore dX6_set_74 (by decide) ?_
            refine mw_aload dX6_set_76 rfl ?_
            refine mw_iload_n dX6_set_78 rfl ?_
            refine mw_puti dX6_set_79 fl_X6_79 ft_0_2 rfl (rfl) rfl (by assumption) ?_
            refine mw_goto (tgt := 146) dX6_set_82 (by decide) ?_
            refine mw_iload dX6_set_146 rfl ?_
            exact mw_iret dX6_set_148 rfl (by decide) (by decide) (by
  rw [sSet, if_pos h5, ecl]
  first
  | (subst h28; rw [if_pos (by grind), c1]; exact ⟨by rw [eq1], rfl, tv_upA (by omega) (by decide) hA, z.up (by omega)⟩)
  | (subst h56; rw [if_pos (by grind), c2]; exact ⟨by rw [eq2], rfl, tv_upA (by omega) (by decide) hA, z.up (by omega)⟩)
  | (subst h87; rw [if_pos (by grind), c3]; exact ⟨by rw [eq3], rfl, tv_upA (by omega) (by decide) hA, z.up (by omega)⟩)
  | (subst h119; rw [if_pos (by grind), c4]; exact ⟨by rw [eq4], rfl, tv_upA (by omega) (by decide) hA, z.up (by omega)⟩)
  | (rw [if_neg (by grind)]; exact ⟨rfl, rfl, hA, z⟩))
      · skip
        refine mw_aload dX6_set_38 rfl ?_
        refine mw_geti dX6_set_40 fl_X6_76 rfl (by assumption) ?_
        refine mw_istore dX6_set_43 (by decide) ?_
        refine mw_aload dX6_set_45 rfl ?_
        refine mw_iload_n dX6_set_47 rfl ?_
        refine mw_puti dX6_set_48 fl_X6_76 ft_0_1 rfl (rfl) rfl (by assumption) ?_
        refine mw_goto (tgt := 146) dX6_set_51 (by decide) ?_
        refine mw_iload dX6_set_146 rfl ?_
        exact mw_iret dX6_set_148 rfl (by decide) (by decide) (by
  rw [sSet, if_pos h5, ecl]
  first
  | (subst h28; rw [if_pos (by grind), c1]; exact ⟨by rw [eq1], rfl, tv_upA (by omega) (by decide) hA, z.up (by omega)⟩)
  | (subst h56; rw [if_pos (by grind), c2]; exact ⟨by rw [eq2], rfl, tv_upA (by omega) (by decide) hA, z.up (by omega)⟩)
  | (subst h87; rw [if_pos (by grind), c3]; exact ⟨by rw [eq3], rfl, tv_upA (by omega) (by decide) hA, z.up (by omega)⟩)
  | (subst h119; rw [if_pos (by grind), c4]; exact ⟨by rw [eq4], rfl, tv_upA (by omega) (by decide) hA, z.up (by omega)⟩)
  | (rw [if_neg (by grind)]; exact ⟨rfl, rfl, hA, z⟩))
  · skip
    refine mw_ldc dX6_set_8 cn_X6_58 ?_
    exact mw_iret dX6_set_10 rfl (by decide) (by decide) (by rw [sSet, if_neg h5]; exact ⟨rfl, rfl, hA, z⟩)
def sStar (A : Nat → Int32) (n : Nat) (v w y : Int32) : Sp := if (0 ≤ v ∧ v ≤ 7) ∧ ((w = 0 ∧ 0 ≤ y ∧ y ≤ 23) ∨ (w = 1 ∧ 0 ≤ y ∧ y ≤ 99)) then (A (10 + 8 * w.toNatClampNeg + v.toNatClampNeg), upd A (10 + 8 * w.toNatClampNeg + v.toNatClampNeg) y, n) else (BADi, A, n)
theorem dX6_star_0 : decode fX6_star.2.1 0 = .ok (.iload_n 1, 1) := by decide +kernel
theorem dX6_star_1 : decode fX6_star.2.1 1 = .ok (.invokestatic 102, 3) := by decide +kernel
theorem dX6_star_4 : decode fX6_star.2.1 4 = .ok (.ifCond .ne 6, 3) := by decide +kernel
theorem dX6_star_7 : decode fX6_star.2.1 7 = .ok (.ldc 58, 2) := by decide +kernel
theorem dX6_star_9 : decode fX6_star.2.1 9 = .ok (.ireturn, 1) := by decide +kernel
theorem dX6_star_10 : decode fX6_star.2.1 10 = .ok (.ldc 58, 2) := by decide +kernel
theorem dX6_star_12 : decode fX6_star.2.1 12 = .ok (.istore 4, 2) := by decide +kernel
theorem dX6_star_14 : decode fX6_star.2.1 14 = .ok (.iload_n 2, 1) := by decide +kernel
theorem dX6_star_15 : decode fX6_star.2.1 15 = .ok (.ifCond .ne 34, 3) := by decide +kernel
theorem dX6_star_18 : decode fX6_star.2.1 18 = .ok (.iload_n 3, 1) := by decide +kernel
theorem dX6_star_19 : decode fX6_star.2.1 19 = .ok (.invokestatic 54, 3) := by decide +kernel
theorem dX6_star_22 : decode fX6_star.2.1 22 = .ok (.ifCond .eq 27, 3) := by decide +kernel
theorem dX6_star_25 : decode fX6_star.2.1 25 = .ok (.aload_n 0, 1) := by decide +kernel
theorem dX6_star_26 : decode fX6_star.2.1 26 = .ok (.getfield 10, 3) := by decide +kernel
theorem dX6_star_29 : decode fX6_star.2.1 29 = .ok (.getfield 105, 3) := by decide +kernel
theorem dX6_star_32 : decode fX6_star.2.1 32 = .ok (.iload_n 1, 1) := by decide +kernel
theorem dX6_star_33 : decode fX6_star.2.1 33 = .ok (.iaload, 1) := by decide +kernel
theorem dX6_star_34 : decode fX6_star.2.1 34 = .ok (.istore 4, 2) := by decide +kernel
theorem dX6_star_36 : decode fX6_star.2.1 36 = .ok (.aload_n 0, 1) := by decide +kernel
theorem dX6_star_37 : decode fX6_star.2.1 37 = .ok (.getfield 10, 3) := by decide +kernel
theorem dX6_star_40 : decode fX6_star.2.1 40 = .ok (.getfield 105, 3) := by decide +kernel
theorem dX6_star_43 : decode fX6_star.2.1 43 = .ok (.iload_n 1, 1) := by decide +kernel
theorem dX6_star_44 : decode fX6_star.2.1 44 = .ok (.iload_n 3, 1) := by decide +kernel
theorem dX6_star_45 : decode fX6_star.2.1 45 = .ok (.iastore, 1) := by decide +kernel
theorem dX6_star_46 : decode fX6_star.2.1 46 = .ok (.goto 39, 3) := by decide +kernel
theorem dX6_star_49 : decode fX6_star.2.1 49 = .ok (.iload_n 2, 1) := by decide +kernel
theorem dX6_star_50 : decode fX6_star.2.1 50 = .ok (.iconst 1, 1) := by decide +kernel
theorem dX6_star_51 : decode fX6_star.2.1 51 = .ok (.if_icmp .ne 34, 3) := by decide +kernel
theorem dX6_star_54 : decode fX6_star.2.1 54 = .ok (.iload_n 3, 1) := by decide +kernel
theorem dX6_star_55 : decode fX6_star.2.1 55 = .ok (.iconst 0, 1) := by decide +kernel
theorem dX6_star_56 : decode fX6_star.2.1 56 = .ok (.bipush 99, 2) := by decide +kernel
theorem dX6_star_58 : decode fX6_star.2.1 58 = .ok (.invokestatic 50, 3) := by decide +kernel
theorem dX6_star_61 : decode fX6_star.2.1 61 = .ok (.ifCond .eq 24, 3) := by decide +kernel
theorem dX6_star_64 : decode fX6_star.2.1 64 = .ok (.aload_n 0, 1) := by decide +kernel
theorem dX6_star_65 : decode fX6_star.2.1 65 = .ok (.getfield 10, 3) := by decide +kernel
theorem dX6_star_68 : decode fX6_star.2.1 68 = .ok (.getfield 108, 3) := by decide +kernel
theorem dX6_star_71 : decode fX6_star.2.1 71 = .ok (.iload_n 1, 1) := by decide +kernel
theorem dX6_star_72 : decode fX6_star.2.1 72 = .ok (.iaload, 1) := by decide +kernel
theorem dX6_star_73 : decode fX6_star.2.1 73 = .ok (.istore 4, 2) := by decide +kernel
theorem dX6_star_75 : decode fX6_star.2.1 75 = .ok (.aload_n 0, 1) := by decide +kernel
theorem dX6_star_76 : decode fX6_star.2.1 76 = .ok (.getfield 10, 3) := by decide +kernel
theorem dX6_star_79 : decode fX6_star.2.1 79 = .ok (.getfield 108, 3) := by decide +kernel
theorem dX6_star_82 : decode fX6_star.2.1 82 = .ok (.iload_n 1, 1) := by decide +kernel
theorem dX6_star_83 : decode fX6_star.2.1 83 = .ok (.iload_n 3, 1) := by decide +kernel
theorem dX6_star_84 : decode fX6_star.2.1 84 = .ok (.iastore, 1) := by decide +kernel
theorem dX6_star_85 : decode fX6_star.2.1 85 = .ok (.iload 4, 2) := by decide +kernel
theorem dX6_star_87 : decode fX6_star.2.1 87 = .ok (.ireturn, 1) := by decide +kernel
set_option maxRecDepth 100000 in
set_option maxHeartbeats 4000000 in
theorem ok_X6_star {X : Xb} {S : Sg} {mi : Mem} {x n : Nat} {A : Nat → Int32} {v w y : Int32} (hX : AsA S x) (hn8 : n ≤ 8) (hA : eqOn (26 + 5 * n) (tv mi (x + 1)) A) (hn : A 1 = nI n) : Ok 2 0 0 fX6_star X [rf X x, .int v, .int w, .int y] S mi (PS S mi x (sStar A n v w y)) := by
  refine Ok.go [some (rf X x), some (.int v), some (.int w), some (.int y), none] (by decide) (by simp [Value.category]) (Nat.le_of_ble_eq_true rfl) rfl ?_
  obtain ⟨k_x, ⟨r_x_now, t_now⟩, ⟨r_x_thought, t_thought⟩, ⟨r_x_image, t_image⟩, ⟨r_x_tape, t_tape⟩, ⟨r_x_sheets, k_x_sheets⟩, ⟨r_x_slots, k_x_slots⟩, ⟨r_x_waiting, k_x_waiting⟩, ⟨r_x_diff, k_x_diff⟩, a_sheets, a_slots⟩ := id hX
  obtain ⟨k_t, ⟨r_t_home, k_t_home⟩, ⟨r_t_price, k_t_price⟩, ⟨r_t_attics, k_t_attics⟩, ⟨r_t_texts, k_t_texts⟩, ⟨r_t_counting, k_t_counting⟩, ⟨r_t_names, k_t_names⟩, ⟨r_t_pile, k_t_pile⟩, ⟨r_t_views, k_t_views⟩, a_t⟩ := id t_now
  have z := Fr1.rf (x + 1) mi
  have c0 : (0 : Int32).toNatClampNeg = 0 := by decide
  have c1 : (1 : Int32).toNatClampNeg = 1 := by decide
  refine mw_iload_n dX6_star_0 rfl ?_
  refine mw_cSI (g := fX6_isStar) dX6_star_1 ml_X6_102 mfX6_isStar (ok_X6_isStar) rfl rfl (Nat.le_of_ble_eq_true rfl) ⟨by decide, by decide⟩ ⟨by decide, by decide⟩ ?_
  refine mw_if_neB (tgt := 10) dX6_star_4 (by decide) (fun h4 => ?_) (fun h4 => ?_)
  · skip
    obtain ⟨a, ha, rfl⟩ := in7 h4
    have ecl : (nI a).toNatClampNeg = a := nI_clamp (by omega)
    have eh := tv_home (k := a) hA ha (by omega)
    have ep := tv_price (k := a) hA ha (by omega)
    refine mw_ldc dX6_star_10 cn_X6_58 ?_
    refine mw_istore dX6_star_12 (by decide) ?_
    refine mw_iload_n dX6_star_14 rfl ?_
    refine mw_if_ne (tgt := 49) dX6_star_15 (by decide) (fun h15 => ?_) (fun h15 => ?_)
    · skip
      refine mw_iload_n dX6_star_49 rfl ?_
      refine mw_iconst (v := 1) dX6_star_50 (by decide) ?_
      refine mw_icmp_ne (tgt := 85) dX6_star_51 (by decide) (fun h51 => ?_) (fun h51 => ?_)
      · skip
        refine mw_iload dX6_star_85 rfl ?_
        exact mw_iret dX6_star_87 rfl (by decide) (by decide) (by
  rw [sStar, ecl]
  first
  | (subst h15; rw [if_pos (by grind), c0]; exact ⟨by rw [eh], rfl, tv_upH ha hA, z.up (by omega)⟩)
  | (subst h51; rw [if_pos (by grind), c1]; exact ⟨by rw [ep], rfl, tv_upP ha hA, z.up (by omega)⟩)
  | (rw [if_neg (by grind)]; exact ⟨rfl, rfl, hA, z⟩))
      · skip
        refine mw_iload_n dX6_star_54 rfl ?_
        refine mw_iconst (v := 0) dX6_star_55 (by decide) ?_
        refine mw_bipush (v := 99) dX6_star_56 (by decide) ?_
        refine mw_cSI (g := fX6_within) dX6_star_58 ml_X6_50 mfX6_within (ok_X6_within) rfl rfl (Nat.le_of_ble_eq_true rfl) ⟨by decide, by decide⟩ ⟨by decide, by decide⟩ ?_
        refine mw_if_eqB (tgt := 85) dX6_star_61 (by decide) (fun h61 => ?_) (fun h61 => ?_)
        · skip
          refine mw_iload dX6_star_85 rfl ?_
          exact mw_iret dX6_star_87 rfl (by decide) (by decide) (by
  rw [sStar, ecl]
  first
  | (subst h15; rw [if_pos (by grind), c0]; exact ⟨by rw [eh], rfl, tv_upH ha hA, z.up (by omega)⟩)
  | (subst h51; rw [if_pos (by grind), c1]; exact ⟨by rw [ep], rfl, tv_upP ha hA, z.up (by omega)⟩)
  | (rw [if_neg (by grind)]; exact ⟨rfl, rfl, hA, z⟩))
        · skip
          refine mw_aload_n dX6_star_64 rfl ?_
          refine mw_getr dX6_star_65 fl_X6_10 rfl (by assumption) (by assumption) ?_
          refine mw_getr dX6_star_68 fl_X6_108 rfl (by assumption) (by assumption) ?_
          refine mw_iload_n dX6_star_71 rfl ?_
          refine mw_ialdK (k := a) dX6_star_72 (by assumption) (rfl) (ha) (by decide) ?_
          refine mw_istore dX6_star_73 (by decide) ?_
          refine mw_aload_n dX6_star_75 rfl ?_
          refine mw_getr dX6_star_76 fl_X6_10 rfl (by assumption) (by assumption) ?_
          refine mw_getr dX6_star_79 fl_X6_108 rfl (by assumption) (by assumption) ?_
          refine mw_iload_n dX6_star_82 rfl ?_
          refine mw_iload_n dX6_star_83 rfl ?_
          refine mw_iastK (k := a) dX6_star_84 (by assumption) (rfl) (ha) (by decide) ?_
          refine mw_iload dX6_star_85 rfl ?_
          exact mw_iret dX6_star_87 rfl (by decide) (by decide) (by
  rw [sStar, ecl]
  first
  | (subst h15; rw [if_pos (by grind), c0]; exact ⟨by rw [eh], rfl, tv_upH ha hA, z.up (by omega)⟩)
  | (subst h51; rw [if_pos (by grind), c1]; exact ⟨by rw [ep], rfl, tv_upP ha hA, z.up (by omega)⟩)
  | (rw [if_neg (by grind)]; exact ⟨rfl, rfl, hA, z⟩))
    · skip
      refine mw_iload_n dX6_star_18 rfl ?_
      refine mw_cSI (g := fX6_isBearing) dX6_star_19 ml_X6_54 mfX6_isBearing (ok_X6_isBearing) rfl rfl (Nat.le_of_ble_eq_true rfl) ⟨by decide, by decide⟩ ⟨by decide, by decide⟩ ?_
      refine mw_if_eqB (tgt := 49) dX6_star_22 (by decide) (fun h22 => ?_) (fun h22 => ?_)
      · skip
        refine mw_iload_n dX6_star_49 rfl ?_
        refine mw_iconst (v := 1) dX6_star_50 (by decide) ?_
        refine mw_icmp_ne (tgt := 85) dX6_star_51 (by decide) (fun h51 => ?_) (fun h51 => ?_)
        · skip
          refine mw_iload dX6_star_85 rfl ?_
          exact mw_iret dX6_star_87 rfl (by decide) (by decide) (by
  rw [sStar, ecl]
  first
  | (subst h15; rw [if_pos (by grind), c0]; exact ⟨by rw [eh], rfl, tv_upH ha hA, z.up (by omega)⟩)
  | (subst h51; rw [if_pos (by grind), c1]; exact ⟨by rw [ep], rfl, tv_upP ha hA, z.up (by omega)⟩)
  | (rw [if_neg (by grind)]; exact ⟨rfl, rfl, hA, z⟩))
        · skip
          refine mw_iload_n dX6_star_54 rfl ?_
          refine mw_iconst (v := 0) dX6_star_55 (by decide) ?_
          refine mw_bipush (v := 99) dX6_star_56 (by decide) ?_
          refine mw_cSI (g := fX6_within) dX6_star_58 ml_X6_50 mfX6_within (ok_X6_within) rfl rfl (Nat.le_of_ble_eq_true rfl) ⟨by decide, by decide⟩ ⟨by decide, by decide⟩ ?_
          refine mw_if_eqB (tgt := 85) dX6_star_61 (by decide) (fun h61 => ?_) (fun h61 => ?_)
          · skip
            refine mw_iload dX6_star_85 rfl ?_
            exact mw_iret dX6_star_87 rfl (by decide) (by decide) (by
  rw [sStar, ecl]
  first
  | (subst h15; rw [if_pos (by grind), c0]; exact ⟨by rw [eh], rfl, tv_upH ha hA, z.up (by omega)⟩)
  | (subst h51; rw [if_pos (by grind), c1]; exact ⟨by rw [ep], rfl, tv_upP ha hA, z.up (by omega)⟩)
  | (rw [if_neg (by grind)]; exact ⟨rfl, rfl, hA, z⟩))
          · skip
            refine mw_aload_n dX6_star_64 rfl ?_
            refine mw_getr dX6_star_65 fl_X6_10 rfl (by assumption) (by assumption) ?_
            refine mw_getr dX6_star_68 fl_X6_108 rfl (by assumption) (by assumption) ?_
            refine mw_iload_n dX6_star_71 rfl ?_
            refine mw_ialdK (k := a) dX6_star_72 (by assumption) (rfl) (ha) (by decide) ?_
            refine mw_istore dX6_star_73 (by decide) ?_
            refine mw_aload_n dX6_star_75 rfl ?_
            refine mw_getr dX6_star_76 fl_X6_10 rfl (by assumption) (by assumption) ?_
            refine mw_getr dX6_star_79 fl_X6_108 rfl (by assumption) (by assumption) ?_
            refine mw_iload_n dX6_star_82 rfl ?_
            refine mw_iload_n dX6_star_83 rfl ?_
            refine mw_iastK (k := a) dX6_star_84 (by assumption) (rfl) (ha) (by decide) ?_
            refine mw_iload dX6_star_85 rfl ?_
            exact mw_iret dX6_star_87 rfl (by decide) (by decide) (by
  rw [sStar, ecl]
  first
  | (subst h15; rw [if_pos (by grind), c0]; exact ⟨by rw [eh], rfl, tv_upH ha hA, z.up (by omega)⟩)
  | (subst h51; rw [if_pos (by grind), c1]; exact ⟨by rw [ep], rfl, tv_upP ha hA, z.up (by omega)⟩)
  | (rw [if_neg (by grind)]; exact ⟨rfl, rfl, hA, z⟩))
      · skip
        refine mw_aload_n dX6_star_25 rfl ?_
        refine mw_getr dX6_star_26 fl_X6_10 rfl (by assumption) (by assumption) ?_
        refine mw_getr dX6_star_29 fl_X6_105 rfl (by assumption) (by assumption) ?_
        refine mw_iload_n dX6_star_32 rfl ?_
        refine mw_ialdK (k := a) dX6_star_33 (by assumption) (rfl) (ha) (by decide) ?_
        refine mw_istore dX6_star_34 (by decide) ?_
        refine mw_aload_n dX6_star_36 rfl ?_
        refine mw_getr dX6_star_37 fl_X6_10 rfl (by assumption) (by assumption) ?_
        refine mw_getr dX6_star_40 fl_X6_105 rfl (by assumption) (by assumption) ?_
        refine mw_iload_n dX6_star_43 rfl ?_
        refine mw_iload_n dX6_star_44 rfl ?_
        refine mw_iastK (k := a) dX6_star_45 (by assumption) (rfl) (ha) (by decide) ?_
        refine mw_goto (tgt := 85) dX6_star_46 (by decide) ?_
        refine mw_iload dX6_star_85 rfl ?_
        exact mw_iret dX6_star_87 rfl (by decide) (by decide) (by
  rw [sStar, ecl]
  first
  | (subst h15; rw [if_pos (by grind), c0]; exact ⟨by rw [eh], rfl, tv_upH ha hA, z.up (by omega)⟩)
  | (subst h51; rw [if_pos (by grind), c1]; exact ⟨by rw [ep], rfl, tv_upP ha hA, z.up (by omega)⟩)
  | (rw [if_neg (by grind)]; exact ⟨rfl, rfl, hA, z⟩))
  · skip
    refine mw_ldc dX6_star_7 cn_X6_58 ?_
    exact mw_iret dX6_star_9 rfl (by decide) (by decide) (by rw [sStar, if_neg (by grind)]; exact ⟨rfl, rfl, hA, z⟩)
def sStarOf (A : Nat → Int32) (n : Nat) (v w : Int32) : Int32 := if 0 ≤ v ∧ v ≤ 7 then (if w = 0 then A (10 + v.toNatClampNeg) else if w = 1 then A (18 + v.toNatClampNeg) else if w = 2 then jr (A (10 + v.toNatClampNeg) + A 2) 24 else if w = 3 then fld (fun s i => s ||| ((rSee A i >>> (v &&& 31) &&& 1) <<< (nI i &&& 31))) 0 n else BADi) else BADi
theorem dX6_starOf_0 : decode fX6_starOf.2.1 0 = .ok (.iload_n 1, 1) := by decide +kernel
theorem dX6_starOf_1 : decode fX6_starOf.2.1 1 = .ok (.invokestatic 102, 3) := by decide +kernel
theorem dX6_starOf_4 : decode fX6_starOf.2.1 4 = .ok (.ifCond .ne 6, 3) := by decide +kernel
theorem dX6_starOf_7 : decode fX6_starOf.2.1 7 = .ok (.ldc 58, 2) := by decide +kernel
theorem dX6_starOf_9 : decode fX6_starOf.2.1 9 = .ok (.ireturn, 1) := by decide +kernel
theorem dX6_starOf_10 : decode fX6_starOf.2.1 10 = .ok (.iload_n 2, 1) := by decide +kernel
theorem dX6_starOf_11 : decode fX6_starOf.2.1 11 = .ok (.tableswitch 67 0 3 #[29, 39, 49, 58], 29) := by decide +kernel
theorem dX6_starOf_40 : decode fX6_starOf.2.1 40 = .ok (.aload_n 0, 1) := by decide +kernel
theorem dX6_starOf_41 : decode fX6_starOf.2.1 41 = .ok (.getfield 10, 3) := by decide +kernel
theorem dX6_starOf_44 : decode fX6_starOf.2.1 44 = .ok (.getfield 105, 3) := by decide +kernel
theorem dX6_starOf_47 : decode fX6_starOf.2.1 47 = .ok (.iload_n 1, 1) := by decide +kernel
theorem dX6_starOf_48 : decode fX6_starOf.2.1 48 = .ok (.iaload, 1) := by decide +kernel
theorem dX6_starOf_49 : decode fX6_starOf.2.1 49 = .ok (.ireturn, 1) := by decide +kernel
theorem dX6_starOf_50 : decode fX6_starOf.2.1 50 = .ok (.aload_n 0, 1) := by decide +kernel
theorem dX6_starOf_51 : decode fX6_starOf.2.1 51 = .ok (.getfield 10, 3) := by decide +kernel
theorem dX6_starOf_54 : decode fX6_starOf.2.1 54 = .ok (.getfield 108, 3) := by decide +kernel
theorem dX6_starOf_57 : decode fX6_starOf.2.1 57 = .ok (.iload_n 1, 1) := by decide +kernel
theorem dX6_starOf_58 : decode fX6_starOf.2.1 58 = .ok (.iaload, 1) := by decide +kernel
theorem dX6_starOf_59 : decode fX6_starOf.2.1 59 = .ok (.ireturn, 1) := by decide +kernel
theorem dX6_starOf_60 : decode fX6_starOf.2.1 60 = .ok (.aload_n 0, 1) := by decide +kernel
theorem dX6_starOf_61 : decode fX6_starOf.2.1 61 = .ok (.getfield 10, 3) := by decide +kernel
theorem dX6_starOf_64 : decode fX6_starOf.2.1 64 = .ok (.iload_n 1, 1) := by decide +kernel
theorem dX6_starOf_65 : decode fX6_starOf.2.1 65 = .ok (.invokevirtual 111, 3) := by decide +kernel
theorem dX6_starOf_68 : decode fX6_starOf.2.1 68 = .ok (.ireturn, 1) := by decide +kernel
theorem dX6_starOf_69 : decode fX6_starOf.2.1 69 = .ok (.aload_n 0, 1) := by decide +kernel
theorem dX6_starOf_70 : decode fX6_starOf.2.1 70 = .ok (.getfield 10, 3) := by decide +kernel
theorem dX6_starOf_73 : decode fX6_starOf.2.1 73 = .ok (.iload_n 1, 1) := by decide +kernel
theorem dX6_starOf_74 : decode fX6_starOf.2.1 74 = .ok (.invokevirtual 115, 3) := by decide +kernel
theorem dX6_starOf_77 : decode fX6_starOf.2.1 77 = .ok (.ireturn, 1) := by decide +kernel
theorem dX6_starOf_78 : decode fX6_starOf.2.1 78 = .ok (.ldc 58, 2) := by decide +kernel
theorem dX6_starOf_80 : decode fX6_starOf.2.1 80 = .ok (.ireturn, 1) := by decide +kernel
set_option maxRecDepth 100000 in
set_option maxHeartbeats 4000000 in
theorem ok_X6_starOf {X : Xb} {S : Sg} {mi : Mem} {x n : Nat} {A : Nat → Int32} {v w : Int32} (hX : AsA S x) (hn8 : n ≤ 8) (hA : eqOn (26 + 5 * n) (tv mi (x + 1)) A) (hn : A 1 = nI n) : Ok 4 0 0 fX6_starOf X [rf X x, .int v, .int w] S mi (PS S mi x (sStarOf A n v w, A, n)) := by
  refine Ok.go [some (rf X x), some (.int v), some (.int w)] (by decide) (by simp [Value.category]) (Nat.le_of_ble_eq_true rfl) rfl ?_
  obtain ⟨k_x, ⟨r_x_now, t_now⟩, ⟨r_x_thought, t_thought⟩, ⟨r_x_image, t_image⟩, ⟨r_x_tape, t_tape⟩, ⟨r_x_sheets, k_x_sheets⟩, ⟨r_x_slots, k_x_slots⟩, ⟨r_x_waiting, k_x_waiting⟩, ⟨r_x_diff, k_x_diff⟩, a_sheets, a_slots⟩ := id hX
  obtain ⟨k_t, ⟨r_t_home, k_t_home⟩, ⟨r_t_price, k_t_price⟩, ⟨r_t_attics, k_t_attics⟩, ⟨r_t_texts, k_t_texts⟩, ⟨r_t_counting, k_t_counting⟩, ⟨r_t_names, k_t_names⟩, ⟨r_t_pile, k_t_pile⟩, ⟨r_t_views, k_t_views⟩, a_t⟩ := id t_now
  have ec : mi (x + 1) 3 = nI n := by rw [show (3 : Nat) = tvF 1 from rfl, tv_0 hA (by decide) (by omega), hn]
  have e10 : mi (x + 1) 10 = A 2 := tv_0 (j := 2) hA (by decide) (by omega)
  have z := Fr1.rf (x + 1) mi
  refine mw_iload_n dX6_starOf_0 rfl ?_
  refine mw_cSI (g := fX6_isStar) dX6_starOf_1 ml_X6_102 mfX6_isStar (ok_X6_isStar) rfl rfl (Nat.le_of_ble_eq_true rfl) ⟨by decide, by decide⟩ ⟨by decide, by decide⟩ ?_
  refine mw_if_neB (tgt := 10) dX6_starOf_4 (by decide) (fun h4 => ?_) (fun h4 => ?_)
  · skip
    obtain ⟨a, ha, rfl⟩ := in7 h4
    have ecl : (nI a).toNatClampNeg = a := nI_clamp (by omega)
    have eh := tv_home (k := a) hA ha (by omega)
    have ep := tv_price (k := a) hA ha (by omega)
    refine mw_iload_n dX6_starOf_10 rfl ?_
    refine mw_ts1 dX6_starOf_11 (by decide) 0 40 (by decide) (fun h11_0 => ?_) (fun h11_0 => ?_)
    · skip
      refine mw_aload_n dX6_starOf_40 rfl ?_
      refine mw_getr dX6_starOf_41 fl_X6_10 rfl (by assumption) (by assumption) ?_
      refine mw_getr dX6_starOf_44 fl_X6_105 rfl (by assumption) (by assumption) ?_
      refine mw_iload_n dX6_starOf_47 rfl ?_
      refine mw_ialdK (k := a) dX6_starOf_48 (by assumption) (rfl) (ha) (by decide) ?_
      exact mw_iret dX6_starOf_49 rfl (by decide) (by decide) (⟨by simp only [sStarOf, if_pos h4, ecl]; simp_all, rfl, hA, z⟩)
    refine mw_ts1 dX6_starOf_11 (by decide) 1 50 (by decide) (fun h11_1 => ?_) (fun h11_1 => ?_)
    · skip
      refine mw_aload_n dX6_starOf_50 rfl ?_
      refine mw_getr dX6_starOf_51 fl_X6_10 rfl (by assumption) (by assumption) ?_
      refine mw_getr dX6_starOf_54 fl_X6_108 rfl (by assumption) (by assumption) ?_
      refine mw_iload_n dX6_starOf_57 rfl ?_
      refine mw_ialdK (k := a) dX6_starOf_58 (by assumption) (rfl) (ha) (by decide) ?_
      exact mw_iret dX6_starOf_59 rfl (by decide) (by decide) (⟨by simp only [sStarOf, if_pos h4, ecl]; simp_all, rfl, hA, z⟩)
    refine mw_ts1 dX6_starOf_11 (by decide) 2 60 (by decide) (fun h11_2 => ?_) (fun h11_2 => ?_)
    · skip
      refine mw_aload_n dX6_starOf_60 rfl ?_
      refine mw_getr dX6_starOf_61 fl_X6_10 rfl (by assumption) (by assumption) ?_
      refine mw_iload_n dX6_starOf_64 rfl ?_
      refine mw_cVI (g := fX5_bearingOf) dX6_starOf_65 ml_X6_111 mfX5_bearingOf (ok_X5_bearingOf t_now ha) (by assumption) rfl rfl (Nat.le_of_ble_eq_true rfl) ⟨by decide, by decide⟩ ⟨by decide, by decide⟩ ?_
      exact mw_iret dX6_starOf_68 rfl (by decide) (by decide) (⟨by simp only [sStarOf, if_pos h4, ecl]; simp_all, rfl, hA, z⟩)
    refine mw_ts1 dX6_starOf_11 (by decide) 3 69 (by decide) (fun h11_3 => ?_) (fun h11_3 => ?_)
    · skip
      refine mw_aload_n dX6_starOf_69 rfl ?_
      refine mw_getr dX6_starOf_70 fl_X6_10 rfl (by assumption) (by assumption) ?_
      refine mw_iload_n dX6_starOf_73 rfl ?_
      refine mw_cVI (g := fX5_watchersOf) dX6_starOf_74 ml_X6_115 mfX5_watchersOf (ok_X5_watchersOf t_now ec hn8) (by assumption) rfl rfl (Nat.le_of_ble_eq_true rfl) ⟨by decide, by decide⟩ ⟨by decide, by decide⟩ ?_
      exact mw_iret dX6_starOf_77 rfl (by decide) (by decide) (⟨by rw [fld_congr n (fun s k hk => by rw [show cSeesA mi (x + 1) k = rSee A k from rSee_of hA (by omega)])]; simp only [sStarOf, if_pos h4, ecl, h11_3]; simp, rfl, hA, z⟩)
    refine mw_ts0 dX6_starOf_11 (by decide) 78 (by decide) (by have e0 := ne_toI (n := 0) (by decide) h11_0; have e1 := ne_toI (n := 1) (by decide) h11_1; have e2 := ne_toI (n := 2) (by decide) h11_2; have e3 := ne_toI (n := 3) (by decide) h11_3; omega) ?_
    refine mw_ldc dX6_starOf_78 cn_X6_58 ?_
    exact mw_iret dX6_starOf_80 rfl (by decide) (by decide) (⟨by simp only [sStarOf, if_pos h4, ecl]; simp_all, rfl, hA, z⟩)
  · skip
    refine mw_ldc dX6_starOf_7 cn_X6_58 ?_
    exact mw_iret dX6_starOf_9 rfl (by decide) (by decide) (by rw [sStarOf, if_neg h4]; exact ⟨rfl, rfl, hA, z⟩)
end
section
/-! the object's calls: chimney, smokes, rule, seed, deal, hours, town, cover -/
def sChim (A : Nat → Int32) (n : Nat) (b v : Int32) : Sp := if (0 ≤ b ∧ b ≤ 23) ∧ (0 ≤ v ∧ v ≤ 1) then (A 9 >>> (b &&& 31) &&& 1, (if A 9 >>> (b &&& 31) &&& 1 = v then A else upd A 9 (A 9 ^^^ (1 <<< (b &&& 31)))), n) else (BADi, A, n)
theorem dX6_chimney_0 : decode fX6_chimney.2.1 0 = .ok (.iload_n 1, 1) := by decide +kernel
theorem dX6_chimney_1 : decode fX6_chimney.2.1 1 = .ok (.invokestatic 54, 3) := by decide +kernel
theorem dX6_chimney_4 : decode fX6_chimney.2.1 4 = .ok (.ifCond .eq 12, 3) := by decide +kernel
theorem dX6_chimney_7 : decode fX6_chimney.2.1 7 = .ok (.iload_n 2, 1) := by decide +kernel
theorem dX6_chimney_8 : decode fX6_chimney.2.1 8 = .ok (.iconst 0, 1) := by decide +kernel
theorem dX6_chimney_9 : decode fX6_chimney.2.1 9 = .ok (.iconst 1, 1) := by decide +kernel
theorem dX6_chimney_10 : decode fX6_chimney.2.1 10 = .ok (.invokestatic 50, 3) := by decide +kernel
theorem dX6_chimney_13 : decode fX6_chimney.2.1 13 = .ok (.ifCond .ne 6, 3) := by decide +kernel
theorem dX6_chimney_16 : decode fX6_chimney.2.1 16 = .ok (.ldc 58, 2) := by decide +kernel
theorem dX6_chimney_18 : decode fX6_chimney.2.1 18 = .ok (.ireturn, 1) := by decide +kernel
theorem dX6_chimney_19 : decode fX6_chimney.2.1 19 = .ok (.aload_n 0, 1) := by decide +kernel
theorem dX6_chimney_20 : decode fX6_chimney.2.1 20 = .ok (.getfield 10, 3) := by decide +kernel
theorem dX6_chimney_23 : decode fX6_chimney.2.1 23 = .ok (.getfield 118, 3) := by decide +kernel
theorem dX6_chimney_26 : decode fX6_chimney.2.1 26 = .ok (.iload_n 1, 1) := by decide +kernel
theorem dX6_chimney_27 : decode fX6_chimney.2.1 27 = .ok (.ishr, 1) := by decide +kernel
theorem dX6_chimney_28 : decode fX6_chimney.2.1 28 = .ok (.iconst 1, 1) := by decide +kernel
theorem dX6_chimney_29 : decode fX6_chimney.2.1 29 = .ok (.iand, 1) := by decide +kernel
theorem dX6_chimney_30 : decode fX6_chimney.2.1 30 = .ok (.istore_n 3, 1) := by decide +kernel
theorem dX6_chimney_31 : decode fX6_chimney.2.1 31 = .ok (.iload_n 3, 1) := by decide +kernel
theorem dX6_chimney_32 : decode fX6_chimney.2.1 32 = .ok (.iload_n 2, 1) := by decide +kernel
theorem dX6_chimney_33 : decode fX6_chimney.2.1 33 = .ok (.if_icmp .eq 18, 3) := by decide +kernel
theorem dX6_chimney_36 : decode fX6_chimney.2.1 36 = .ok (.aload_n 0, 1) := by decide +kernel
theorem dX6_chimney_37 : decode fX6_chimney.2.1 37 = .ok (.getfield 10, 3) := by decide +kernel
theorem dX6_chimney_40 : decode fX6_chimney.2.1 40 = .ok (.dup, 1) := by decide +kernel
theorem dX6_chimney_41 : decode fX6_chimney.2.1 41 = .ok (.getfield 118, 3) := by decide +kernel
theorem dX6_chimney_44 : decode fX6_chimney.2.1 44 = .ok (.iconst 1, 1) := by decide +kernel
theorem dX6_chimney_45 : decode fX6_chimney.2.1 45 = .ok (.iload_n 1, 1) := by decide +kernel
theorem dX6_chimney_46 : decode fX6_chimney.2.1 46 = .ok (.ishl, 1) := by decide +kernel
theorem dX6_chimney_47 : decode fX6_chimney.2.1 47 = .ok (.ixor, 1) := by decide +kernel
theorem dX6_chimney_48 : decode fX6_chimney.2.1 48 = .ok (.putfield 118, 3) := by decide +kernel
theorem dX6_chimney_51 : decode fX6_chimney.2.1 51 = .ok (.iload_n 3, 1) := by decide +kernel
theorem dX6_chimney_52 : decode fX6_chimney.2.1 52 = .ok (.ireturn, 1) := by decide +kernel
set_option maxRecDepth 100000 in
set_option maxHeartbeats 4000000 in
theorem ok_X6_chimney {X : Xb} {S : Sg} {mi : Mem} {x n : Nat} {A : Nat → Int32} {b v : Int32} (hX : AsA S x) (hn8 : n ≤ 8) (hA : eqOn (26 + 5 * n) (tv mi (x + 1)) A) (hn : A 1 = nI n) : Ok 2 0 0 fX6_chimney X [rf X x, .int b, .int v] S mi (PS S mi x (sChim A n b v)) := by
  refine Ok.go [some (rf X x), some (.int b), some (.int v), none] (by decide) (by simp [Value.category]) (Nat.le_of_ble_eq_true rfl) rfl ?_
  obtain ⟨k_x, ⟨r_x_now, t_now⟩, ⟨r_x_thought, t_thought⟩, ⟨r_x_image, t_image⟩, ⟨r_x_tape, t_tape⟩, ⟨r_x_sheets, k_x_sheets⟩, ⟨r_x_slots, k_x_slots⟩, ⟨r_x_waiting, k_x_waiting⟩, ⟨r_x_diff, k_x_diff⟩, a_sheets, a_slots⟩ := id hX
  obtain ⟨k_t, ⟨r_t_home, k_t_home⟩, ⟨r_t_price, k_t_price⟩, ⟨r_t_attics, k_t_attics⟩, ⟨r_t_texts, k_t_texts⟩, ⟨r_t_counting, k_t_counting⟩, ⟨r_t_names, k_t_names⟩, ⟨r_t_pile, k_t_pile⟩, ⟨r_t_views, k_t_views⟩, a_t⟩ := id t_now
  have z := Fr1.rf (x + 1) mi
  have e4 : mi (x + 1) 4 = A 9 := tv_0 (j := 9) hA (by decide) (by omega)
  refine mw_iload_n dX6_chimney_0 rfl ?_
  refine mw_cSI (g := fX6_isBearing) dX6_chimney_1 ml_X6_54 mfX6_isBearing (ok_X6_isBearing) rfl rfl (Nat.le_of_ble_eq_true rfl) ⟨by decide, by decide⟩ ⟨by decide, by decide⟩ ?_
  refine mw_if_eqB (tgt := 16) dX6_chimney_4 (by decide) (fun h4 => ?_) (fun h4 => ?_)
  · skip
    refine mw_ldc dX6_chimney_16 cn_X6_58 ?_
    exact mw_iret dX6_chimney_18 rfl (by decide) (by decide) (by rw [sChim, if_neg (by grind)]; exact ⟨rfl, rfl, hA, z⟩)
  · skip
    refine mw_iload_n dX6_chimney_7 rfl ?_
    refine mw_iconst (v := 0) dX6_chimney_8 (by decide) ?_
    refine mw_iconst (v := 1) dX6_chimney_9 (by decide) ?_
    refine mw_cSI (g := fX6_within) dX6_chimney_10 ml_X6_50 mfX6_within (ok_X6_within) rfl rfl (Nat.le_of_ble_eq_true rfl) ⟨by decide, by decide⟩ ⟨by decide, by decide⟩ ?_
    refine mw_if_neB (tgt := 19) dX6_chimney_13 (by decide) (fun h13 => ?_) (fun h13 => ?_)
    · skip
      refine mw_aload_n dX6_chimney_19 rfl ?_
      refine mw_getr dX6_chimney_20 fl_X6_10 rfl (by assumption) (by assumption) ?_
      refine mw_geti dX6_chimney_23 fl_X6_118 rfl (by assumption) ?_
      rw [e4]
      refine mw_iload_n dX6_chimney_26 rfl ?_
      refine mw_ishr dX6_chimney_27 ?_
      refine mw_iconst (v := 1) dX6_chimney_28 (by decide) ?_
      refine mw_iand dX6_chimney_29 ?_
      refine mw_istN 3 dX6_chimney_30 rfl (by decide) ?_
      refine mw_iload_n dX6_chimney_31 rfl ?_
      refine mw_iload_n dX6_chimney_32 rfl ?_
      refine mw_icmp_eq (tgt := 51) dX6_chimney_33 (by decide) (fun h33 => ?_) (fun h33 => ?_)
      · skip
        refine mw_iload_n dX6_chimney_51 rfl ?_
        exact mw_iret dX6_chimney_52 rfl (by decide) (by decide) (by
  rw [sChim, if_pos (by grind)]
  first
  | (rw [if_pos h33]; exact ⟨rfl, rfl, hA, z⟩)
  | (rw [if_neg h33]; exact ⟨rfl, rfl, tv_up0 (j := 9) (by decide) hA, z.up (by omega)⟩))
      · skip
        refine mw_aload_n dX6_chimney_36 rfl ?_
        refine mw_getr dX6_chimney_37 fl_X6_10 rfl (by assumption) (by assumption) ?_
        refine mw_dup dX6_chimney_40 rfl ?_
        refine mw_geti dX6_chimney_41 fl_X6_118 rfl (by assumption) ?_
        rw [e4]
        refine mw_iconst (v := 1) dX6_chimney_44 (by decide) ?_
        refine mw_iload_n dX6_chimney_45 rfl ?_
        refine mw_ishl dX6_chimney_46 ?_
        refine mw_ixor dX6_chimney_47 ?_
        refine mw_puti dX6_chimney_48 fl_X6_118 ft_5_4 rfl (rfl) rfl (by assumption) ?_
        refine mw_iload_n dX6_chimney_51 rfl ?_
        exact mw_iret dX6_chimney_52 rfl (by decide) (by decide) (by
  rw [sChim, if_pos (by grind)]
  first
  | (rw [if_pos h33]; exact ⟨rfl, rfl, hA, z⟩)
  | (rw [if_neg h33]; exact ⟨rfl, rfl, tv_up0 (j := 9) (by decide) hA, z.up (by omega)⟩))
    · skip
      refine mw_ldc dX6_chimney_16 cn_X6_58 ?_
      exact mw_iret dX6_chimney_18 rfl (by decide) (by decide) (by rw [sChim, if_neg (by grind)]; exact ⟨rfl, rfl, hA, z⟩)
def sSmokes (A : Nat → Int32) (b : Int32) : Int32 := if 0 ≤ b ∧ b ≤ 23 then A 9 >>> (b &&& 31) &&& 1 else BADi
theorem dX6_smokes_0 : decode fX6_smokes.2.1 0 = .ok (.iload_n 1, 1) := by decide +kernel
theorem dX6_smokes_1 : decode fX6_smokes.2.1 1 = .ok (.invokestatic 54, 3) := by decide +kernel
theorem dX6_smokes_4 : decode fX6_smokes.2.1 4 = .ok (.ifCond .eq 17, 3) := by decide +kernel
theorem dX6_smokes_7 : decode fX6_smokes.2.1 7 = .ok (.aload_n 0, 1) := by decide +kernel
theorem dX6_smokes_8 : decode fX6_smokes.2.1 8 = .ok (.getfield 10, 3) := by decide +kernel
theorem dX6_smokes_11 : decode fX6_smokes.2.1 11 = .ok (.getfield 118, 3) := by decide +kernel
theorem dX6_smokes_14 : decode fX6_smokes.2.1 14 = .ok (.iload_n 1, 1) := by decide +kernel
theorem dX6_smokes_15 : decode fX6_smokes.2.1 15 = .ok (.ishr, 1) := by decide +kernel
theorem dX6_smokes_16 : decode fX6_smokes.2.1 16 = .ok (.iconst 1, 1) := by decide +kernel
theorem dX6_smokes_17 : decode fX6_smokes.2.1 17 = .ok (.iand, 1) := by decide +kernel
theorem dX6_smokes_18 : decode fX6_smokes.2.1 18 = .ok (.goto 5, 3) := by decide +kernel
theorem dX6_smokes_21 : decode fX6_smokes.2.1 21 = .ok (.ldc 58, 2) := by decide +kernel
theorem dX6_smokes_23 : decode fX6_smokes.2.1 23 = .ok (.ireturn, 1) := by decide +kernel
set_option maxRecDepth 100000 in
set_option maxHeartbeats 4000000 in
theorem ok_X6_smokes {X : Xb} {S : Sg} {mi : Mem} {x n : Nat} {A : Nat → Int32} {b : Int32} (hX : AsA S x) (hn8 : n ≤ 8) (hA : eqOn (26 + 5 * n) (tv mi (x + 1)) A) (hn : A 1 = nI n) : Ok 2 0 0 fX6_smokes X [rf X x, .int b] S mi (PS S mi x (sSmokes A b, A, n)) := by
  refine Ok.go [some (rf X x), some (.int b)] (by decide) (by simp [Value.category]) (Nat.le_of_ble_eq_true rfl) rfl ?_
  obtain ⟨k_x, ⟨r_x_now, t_now⟩, ⟨r_x_thought, t_thought⟩, ⟨r_x_image, t_image⟩, ⟨r_x_tape, t_tape⟩, ⟨r_x_sheets, k_x_sheets⟩, ⟨r_x_slots, k_x_slots⟩, ⟨r_x_waiting, k_x_waiting⟩, ⟨r_x_diff, k_x_diff⟩, a_sheets, a_slots⟩ := id hX
  obtain ⟨k_t, ⟨r_t_home, k_t_home⟩, ⟨r_t_price, k_t_price⟩, ⟨r_t_attics, k_t_attics⟩, ⟨r_t_texts, k_t_texts⟩, ⟨r_t_counting, k_t_counting⟩, ⟨r_t_names, k_t_names⟩, ⟨r_t_pile, k_t_pile⟩, ⟨r_t_views, k_t_views⟩, a_t⟩ := id t_now
  have z := Fr1.rf (x + 1) mi
  have e4 : mi (x + 1) 4 = A 9 := tv_0 (j := 9) hA (by decide) (by omega)
  refine mw_iload_n dX6_smokes_0 rfl ?_
  refine mw_cSI (g := fX6_isBearing) dX6_smokes_1 ml_X6_54 mfX6_isBearing (ok_X6_isBearing) rfl rfl (Nat.le_of_ble_eq_true rfl) ⟨by decide, by decide⟩ ⟨by decide, by decide⟩ ?_
  refine mw_if_eqB (tgt := 21) dX6_smokes_4 (by decide) (fun h4 => ?_) (fun h4 => ?_)
  · skip
    refine mw_ldc dX6_smokes_21 cn_X6_58 ?_
    exact mw_iret dX6_smokes_23 rfl (by decide) (by decide) (by first | (rw [sSmokes, if_pos h4]; exact ⟨rfl, rfl, hA, z⟩) | (rw [sSmokes, if_neg h4]; exact ⟨rfl, rfl, hA, z⟩))
  · skip
    refine mw_aload_n dX6_smokes_7 rfl ?_
    refine mw_getr dX6_smokes_8 fl_X6_10 rfl (by assumption) (by assumption) ?_
    refine mw_geti dX6_smokes_11 fl_X6_118 rfl (by assumption) ?_
    rw [e4]
    refine mw_iload_n dX6_smokes_14 rfl ?_
    refine mw_ishr dX6_smokes_15 ?_
    refine mw_iconst (v := 1) dX6_smokes_16 (by decide) ?_
    refine mw_iand dX6_smokes_17 ?_
    refine mw_goto (tgt := 23) dX6_smokes_18 (by decide) ?_
    exact mw_iret dX6_smokes_23 rfl (by decide) (by decide) (by first | (rw [sSmokes, if_pos h4]; exact ⟨rfl, rfl, hA, z⟩) | (rw [sSmokes, if_neg h4]; exact ⟨rfl, rfl, hA, z⟩))
def sRule (A : Nat → Int32) (n : Nat) (w y : Int32) : Sp := if (w = 0 ∧ 0 ≤ y ∧ y ≤ 100) ∨ (w = 1 ∧ 0 ≤ y ∧ y ≤ 100) ∨ (w = 2 ∧ 0 ≤ y ∧ y ≤ 999) then (A (6 + w.toNatClampNeg), upd A (6 + w.toNatClampNeg) y, n) else (BADi, A, n)
theorem dX6_rule_0 : decode fX6_rule.2.1 0 = .ok (.ldc 58, 2) := by decide +kernel
theorem dX6_rule_2 : decode fX6_rule.2.1 2 = .ok (.istore_n 3, 1) := by decide +kernel
theorem dX6_rule_3 : decode fX6_rule.2.1 3 = .ok (.iload_n 1, 1) := by decide +kernel
theorem dX6_rule_4 : decode fX6_rule.2.1 4 = .ok (.ifCond .ne 32, 3) := by decide +kernel
theorem dX6_rule_7 : decode fX6_rule.2.1 7 = .ok (.iload_n 2, 1) := by decide +kernel
theorem dX6_rule_8 : decode fX6_rule.2.1 8 = .ok (.iconst 0, 1) := by decide +kernel
theorem dX6_rule_9 : decode fX6_rule.2.1 9 = .ok (.bipush 100, 2) := by decide +kernel
theorem dX6_rule_11 : decode fX6_rule.2.1 11 = .ok (.invokestatic 50, 3) := by decide +kernel
theorem dX6_rule_14 : decode fX6_rule.2.1 14 = .ok (.ifCond .eq 22, 3) := by decide +kernel
theorem dX6_rule_17 : decode fX6_rule.2.1 17 = .ok (.aload_n 0, 1) := by decide +kernel
theorem dX6_rule_18 : decode fX6_rule.2.1 18 = .ok (.getfield 10, 3) := by decide +kernel
theorem dX6_rule_21 : decode fX6_rule.2.1 21 = .ok (.getfield 121, 3) := by decide +kernel
theorem dX6_rule_24 : decode fX6_rule.2.1 24 = .ok (.istore_n 3, 1) := by decide +kernel
theorem dX6_rule_25 : decode fX6_rule.2.1 25 = .ok (.aload_n 0, 1) := by decide +kernel
theorem dX6_rule_26 : decode fX6_rule.2.1 26 = .ok (.getfield 10, 3) := by decide +kernel
theorem dX6_rule_29 : decode fX6_rule.2.1 29 = .ok (.iload_n 2, 1) := by decide +kernel
theorem dX6_rule_30 : decode fX6_rule.2.1 30 = .ok (.putfield 121, 3) := by decide +kernel
theorem dX6_rule_33 : decode fX6_rule.2.1 33 = .ok (.goto 69, 3) := by decide +kernel
theorem dX6_rule_36 : decode fX6_rule.2.1 36 = .ok (.iload_n 1, 1) := by decide +kernel
theorem dX6_rule_37 : decode fX6_rule.2.1 37 = .ok (.iconst 1, 1) := by decide +kernel
theorem dX6_rule_38 : decode fX6_rule.2.1 38 = .ok (.if_icmp .ne 32, 3) := by decide +kernel
theorem dX6_rule_41 : decode fX6_rule.2.1 41 = .ok (.iload_n 2, 1) := by decide +kernel
theorem dX6_rule_42 : decode fX6_rule.2.1 42 = .ok (.iconst 0, 1) := by decide +kernel
theorem dX6_rule_43 : decode fX6_rule.2.1 43 = .ok (.bipush 100, 2) := by decide +kernel
theorem dX6_rule_45 : decode fX6_rule.2.1 45 = .ok (.invokestatic 50, 3) := by decide +kernel
theorem dX6_rule_48 : decode fX6_rule.2.1 48 = .ok (.ifCond .eq 22, 3) := by decide +kernel
theorem dX6_rule_51 : decode fX6_rule.2.1 51 = .ok (.aload_n 0, 1) := by decide +kernel
theorem dX6_rule_52 : decode fX6_rule.2.1 52 = .ok (.getfield 10, 3) := by decide +kernel
theorem dX6_rule_55 : decode fX6_rule.2.1 55 = .ok (.getfield 124, 3) := by decide +kernel
theorem dX6_rule_58 : decode fX6_rule.2.1 58 = .ok (.istore_n 3, 1) := by decide +kernel
theorem dX6_rule_59 : decode fX6_rule.2.1 59 = .ok (.aload_n 0, 1) := by decide +kernel
theorem dX6_rule_60 : decode fX6_rule.2.1 60 = .ok (.getfield 10, 3) := by decide +kernel
theorem dX6_rule_63 : decode fX6_rule.2.1 63 = .ok (.iload_n 2, 1) := by decide +kernel
theorem dX6_rule_64 : decode fX6_rule.2.1 64 = .ok (.putfield 124, 3) := by decide +kernel
theorem dX6_rule_67 : decode fX6_rule.2.1 67 = .ok (.goto 35, 3) := by decide +kernel
theorem dX6_rule_70 : decode fX6_rule.2.1 70 = .ok (.iload_n 1, 1) := by decide +kernel
theorem dX6_rule_71 : decode fX6_rule.2.1 71 = .ok (.iconst 2, 1) := by decide +kernel
theorem dX6_rule_72 : decode fX6_rule.2.1 72 = .ok (.if_icmp .ne 30, 3) := by decide +kernel
theorem dX6_rule_75 : decode fX6_rule.2.1 75 = .ok (.iload_n 2, 1) := by decide +kernel
theorem dX6_rule_76 : decode fX6_rule.2.1 76 = .ok (.iconst 0, 1) := by decide +kernel
theorem dX6_rule_77 : decode fX6_rule.2.1 77 = .ok (.sipush 999, 3) := by decide +kernel
theorem dX6_rule_80 : decode fX6_rule.2.1 80 = .ok (.invokestatic 50, 3) := by decide +kernel
theorem dX6_rule_83 : decode fX6_rule.2.1 83 = .ok (.ifCond .eq 19, 3) := by decide +kernel
theorem dX6_rule_86 : decode fX6_rule.2.1 86 = .ok (.aload_n 0, 1) := by decide +kernel
theorem dX6_rule_87 : decode fX6_rule.2.1 87 = .ok (.getfield 10, 3) := by decide +kernel
theorem dX6_rule_90 : decode fX6_rule.2.1 90 = .ok (.getfield 127, 3) := by decide +kernel
theorem dX6_rule_93 : decode fX6_rule.2.1 93 = .ok (.istore_n 3, 1) := by decide +kernel
theorem dX6_rule_94 : decode fX6_rule.2.1 94 = .ok (.aload_n 0, 1) := by decide +kernel
theorem dX6_rule_95 : decode fX6_rule.2.1 95 = .ok (.getfield 10, 3) := by decide +kernel
theorem dX6_rule_98 : decode fX6_rule.2.1 98 = .ok (.iload_n 2, 1) := by decide +kernel
theorem dX6_rule_99 : decode fX6_rule.2.1 99 = .ok (.putfield 127, 3) := by decide +kernel
theorem dX6_rule_102 : decode fX6_rule.2.1 102 = .ok (.iload_n 3, 1) := by decide +kernel
theorem dX6_rule_103 : decode fX6_rule.2.1 103 = .ok (.ireturn, 1) := by decide +kernel
set_option maxRecDepth 100000 in
set_option maxHeartbeats 4000000 in
theorem ok_X6_rule {X : Xb} {S : Sg} {mi : Mem} {x n : Nat} {A : Nat → Int32} {w y : Int32} (hX : AsA S x) (hn8 : n ≤ 8) (hA : eqOn (26 + 5 * n) (tv mi (x + 1)) A) (hn : A 1 = nI n) : Ok 2 0 0 fX6_rule X [rf X x, .int w, .int y] S mi (PS S mi x (sRule A n w y)) := by
  refine Ok.go [some (rf X x), some (.int w), some (.int y), none] (by decide) (by simp [Value.category]) (Nat.le_of_ble_eq_true rfl) rfl ?_
  obtain ⟨k_x, ⟨r_x_now, t_now⟩, ⟨r_x_thought, t_thought⟩, ⟨r_x_image, t_image⟩, ⟨r_x_tape, t_tape⟩, ⟨r_x_sheets, k_x_sheets⟩, ⟨r_x_slots, k_x_slots⟩, ⟨r_x_waiting, k_x_waiting⟩, ⟨r_x_diff, k_x_diff⟩, a_sheets, a_slots⟩ := id hX
  obtain ⟨k_t, ⟨r_t_home, k_t_home⟩, ⟨r_t_price, k_t_price⟩, ⟨r_t_attics, k_t_attics⟩, ⟨r_t_texts, k_t_texts⟩, ⟨r_t_counting, k_t_counting⟩, ⟨r_t_names, k_t_names⟩, ⟨r_t_pile, k_t_pile⟩, ⟨r_t_views, k_t_views⟩, a_t⟩ := id t_now
  have z := Fr1.rf (x + 1) mi
  have e5 : mi (x + 1) 5 = A 6 := tv_0 (j := 6) hA (by decide) (by omega)
  have e6 : mi (x + 1) 6 = A 7 := tv_0 (j := 7) hA (by decide) (by omega)
  have e7 : mi (x + 1) 7 = A 8 := tv_0 (j := 8) hA (by decide) (by omega)
  have c0 : (0 : Int32).toNatClampNeg = 0 := by decide
  have c1 : (1 : Int32).toNatClampNeg = 1 := by decide
  have c2 : (2 : Int32).toNatClampNeg = 2 := by decide
  refine mw_ldc dX6_rule_0 cn_X6_58 ?_
  refine mw_istN 3 dX6_rule_2 rfl (by decide) ?_
  refine mw_iload_n dX6_rule_3 rfl ?_
  refine mw_if_ne (tgt := 36) dX6_rule_4 (by decide) (fun h4 => ?_) (fun h4 => ?_)
  · skip
    refine mw_iload_n dX6_rule_36 rfl ?_
    refine mw_iconst (v := 1) dX6_rule_37 (by decide) ?_
    refine mw_icmp_ne (tgt := 70) dX6_rule_38 (by decide) (fun h38 => ?_) (fun h38 => ?_)
    · skip
      refine mw_iload_n dX6_rule_70 rfl ?_
      refine mw_iconst (v := 2) dX6_rule_71 (by decide) ?_
      refine mw_icmp_ne (tgt := 102) dX6_rule_72 (by decide) (fun h72 => ?_) (fun h72 => ?_)
      · skip
        refine mw_iload_n dX6_rule_102 rfl ?_
        exact mw_iret dX6_rule_103 rfl (by decide) (by decide) (by
  rw [sRule]
  first
  | (subst h4; rw [if_pos (by grind), c0]; exact ⟨by rw [e5], rfl, tv_up0 (j := 6) (by decide) hA, z.up (by omega)⟩)
  | (subst h38; rw [if_pos (by grind), c1]; exact ⟨by rw [e6], rfl, tv_up0 (j := 7) (by decide) hA, z.up (by omega)⟩)
  | (subst h72; rw [if_pos (by grind), c2]; exact ⟨by rw [e7], rfl, tv_up0 (j := 8) (by decide) hA, z.up (by omega)⟩)
  | (rw [if_neg (by grind)]; exact ⟨rfl, rfl, hA, z⟩))
      · skip
        refine mw_iload_n dX6_rule_75 rfl ?_
        refine mw_iconst (v := 0) dX6_rule_76 (by decide) ?_
        refine mw_sipush (v := 999) dX6_rule_77 (by decide) ?_
        refine mw_cSI (g := fX6_within) dX6_rule_80 ml_X6_50 mfX6_within (ok_X6_within) rfl rfl (Nat.le_of_ble_eq_true rfl) ⟨by decide, by decide⟩ ⟨by decide, by decide⟩ ?_
        refine mw_if_eqB (tgt := 102) dX6_rule_83 (by decide) (fun h83 => ?_) (fun h83 => ?_)
        · skip
          refine mw_iload_n dX6_rule_102 rfl ?_
          exact mw_iret dX6_rule_103 rfl (by decide) (by decide) (by
  rw [sRule]
  first
  | (subst h4; rw [if_pos (by grind), c0]; exact ⟨by rw [e5], rfl, tv_up0 (j := 6) (by decide) hA, z.up (by omega)⟩)
  | (subst h38; rw [if_pos (by grind), c1]; exact ⟨by rw [e6], rfl, tv_up0 (j := 7) (by decide) hA, z.up (by omega)⟩)
  | (subst h72; rw [if_pos (by grind), c2]; exact ⟨by rw [e7], rfl, tv_up0 (j := 8) (by decide) hA, z.up (by omega)⟩)
  | (rw [if_neg (by grind)]; exact ⟨rfl, rfl, hA, z⟩))
        · skip
          refine mw_aload_n dX6_rule_86 rfl ?_
          refine mw_getr dX6_rule_87 fl_X6_10 rfl (by assumption) (by assumption) ?_
          refine mw_geti dX6_rule_90 fl_X6_127 rfl (by assumption) ?_
          refine mw_istN 3 dX6_rule_93 rfl (by decide) ?_
          refine mw_aload_n dX6_rule_94 rfl ?_
          refine mw_getr dX6_rule_95 fl_X6_10 rfl (by assumption) (by assumption) ?_
          refine mw_iload_n dX6_rule_98 rfl ?_
          refine mw_puti dX6_rule_99 fl_X6_127 ft_5_7 rfl (rfl) rfl (by assumption) ?_
          refine mw_iload_n dX6_rule_102 rfl ?_
          exact mw_iret dX6_rule_103 rfl (by decide) (by decide) (by
  rw [sRule]
  first
  | (subst h4; rw [if_pos (by grind), c0]; exact ⟨by rw [e5], rfl, tv_up0 (j := 6) (by decide) hA, z.up (by omega)⟩)
  | (subst h38; rw [if_pos (by grind), c1]; exact ⟨by rw [e6], rfl, tv_up0 (j := 7) (by decide) hA, z.up (by omega)⟩)
  | (subst h72; rw [if_pos (by grind), c2]; exact ⟨by rw [e7], rfl, tv_up0 (j := 8) (by decide) hA, z.up (by omega)⟩)
  | (rw [if_neg (by grind)]; exact ⟨rfl, rfl, hA, z⟩))
    · skip
      refine mw_iload_n dX6_rule_41 rfl ?_
      refine mw_iconst (v := 0) dX6_rule_42 (by decide) ?_
      refine mw_bipush (v := 100) dX6_rule_43 (by decide) ?_
      refine mw_cSI (g := fX6_within) dX6_rule_45 ml_X6_50 mfX6_within (ok_X6_within) rfl rfl (Nat.le_of_ble_eq_true rfl) ⟨by decide, by decide⟩ ⟨by decide, by decide⟩ ?_
      refine mw_if_eqB (tgt := 70) dX6_rule_48 (by decide) (fun h48 => ?_) (fun h48 => ?_)
      · skip
        refine mw_iload_n dX6_rule_70 rfl ?_
        refine mw_iconst (v := 2) dX6_rule_71 (by decide) ?_
        refine mw_icmp_ne (tgt := 102) dX6_rule_72 (by decide) (fun h72 => ?_) (fun h72 => ?_)
        · skip
          refine mw_iload_n dX6_rule_102 rfl ?_
          exact mw_iret dX6_rule_103 rfl (by decide) (by decide) (by
  rw [sRule]
  first
  | (subst h4; rw [if_pos (by grind), c0]; exact ⟨by rw [e5], rfl, tv_up0 (j := 6) (by decide) hA, z.up (by omega)⟩)
  | (subst h38; rw [if_pos (by grind), c1]; exact ⟨by rw [e6], rfl, tv_up0 (j := 7) (by decide) hA, z.up (by omega)⟩)
  | (subst h72; rw [if_pos (by grind), c2]; exact ⟨by rw [e7], rfl, tv_up0 (j := 8) (by decide) hA, z.up (by omega)⟩)
  | (rw [if_neg (by grind)]; exact ⟨rfl, rfl, hA, z⟩))
        · skip
          refine mw_iload_n dX6_rule_75 rfl ?_
          refine mw_iconst (v := 0) dX6_rule_76 (by decide) ?_
          refine mw_sipush (v := 999) dX6_rule_77 (by decide) ?_
          refine mw_cSI (g := fX6_within) dX6_rule_80 ml_X6_50 mfX6_within (ok_X6_within) rfl rfl (Nat.le_of_ble_eq_true rfl) ⟨by decide, by decide⟩ ⟨by decide, by decide⟩ ?_
          refine mw_if_eqB (tgt := 102) dX6_rule_83 (by decide) (fun h83 => ?_) (fun h83 => ?_)
          · skip
            refine mw_iload_n dX6_rule_102 rfl ?_
            exact mw_iret dX6_rule_103 rfl (by decide) (by decide) (by
  rw [sRule]
  first
  | (subst h4; rw [if_pos (by grind), c0]; exact ⟨by rw [e5], rfl, tv_up0 (j := 6) (by decide) hA, z.up (by omega)⟩)
  | (subst h38; rw [if_pos (by grind), c1]; exact ⟨by rw [e6], rfl, tv_up0 (j := 7) (by decide) hA, z.up (by omega)⟩)
  | (subst h72; rw [if_pos (by grind), c2]; exact ⟨by rw [e7], rfl, tv_up0 (j := 8) (by decide) hA, z.up (by omega)⟩)
  | (rw [if_neg (by grind)]; exact ⟨rfl, rfl, hA, z⟩))
          · skip
            refine mw_aload_n dX6_rule_86 rfl ?_
            refine mw_getr dX6_rule_87 fl_X6_10 rfl (by assumption) (by assumption) ?_
            refine mw_geti dX6_rule_90 fl_X6_127 rfl (by assumption) ?_
            refine mw_istN 3 dX6_rule_93 rfl (by decide) ?_
            refine mw_aload_n dX6_rule_94 rfl ?_
            refine mw_getr dX6_rule_95 fl_X6_10 rfl (by assumption) (by assumption) ?_
            refine mw_iload_n dX6_rule_98 rfl ?_
            refine mw_puti dX6_rule_99 fl_X6_127 ft_5_7 rfl (rfl) rfl (by assumption) ?_
            refine mw_iload_n dX6_rule_102 rfl ?_
            exact mw_iret dX6_rule_103 rfl (by decide) (by decide) (by
  rw [sRule]
  first
  | (subst h4; rw [if_pos (by grind), c0]; exact ⟨by rw [e5], rfl, tv_up0 (j := 6) (by decide) hA, z.up (by omega)⟩)
  | (subst h38; rw [if_pos (by grind), c1]; exact ⟨by rw [e6], rfl, tv_up0 (j := 7) (by decide) hA, z.up (by omega)⟩)
  | (subst h72; rw [if_pos (by grind), c2]; exact ⟨by rw [e7], rfl, tv_up0 (j := 8) (by decide) hA, z.up (by omega)⟩)
  | (rw [if_neg (by grind)]; exact ⟨rfl, rfl, hA, z⟩))
      · skip
        refine mw_aload_n dX6_rule_51 rfl ?_
        refine mw_getr dX6_rule_52 fl_X6_10 rfl (by assumption) (by assumption) ?_
        refine mw_geti dX6_rule_55 fl_X6_124 rfl (by assumption) ?_
        refine mw_istN 3 dX6_rule_58 rfl (by decide) ?_
        refine mw_aload_n dX6_rule_59 rfl ?_
        refine mw_getr dX6_rule_60 fl_X6_10 rfl (by assumption) (by assumption) ?_
        refine mw_iload_n dX6_rule_63 rfl ?_
        refine mw_puti dX6_rule_64 fl_X6_124 ft_5_6 rfl (rfl) rfl (by assumption) ?_
        refine mw_goto (tgt := 102) dX6_rule_67 (by decide) ?_
        refine mw_iload_n dX6_rule_102 rfl ?_
        exact mw_iret dX6_rule_103 rfl (by decide) (by decide) (by
  rw [sRule]
  first
  | (subst h4; rw [if_pos (by grind), c0]; exact ⟨by rw [e5], rfl, tv_up0 (j := 6) (by decide) hA, z.up (by omega)⟩)
  | (subst h38; rw [if_pos (by grind), c1]; exact ⟨by rw [e6], rfl, tv_up0 (j := 7) (by decide) hA, z.up (by omega)⟩)
  | (subst h72; rw [if_pos (by grind), c2]; exact ⟨by rw [e7], rfl, tv_up0 (j := 8) (by decide) hA, z.up (by omega)⟩)
  | (rw [if_neg (by grind)]; exact ⟨rfl, rfl, hA, z⟩))
  · skip
    refine mw_iload_n dX6_rule_7 rfl ?_
    refine mw_iconst (v := 0) dX6_rule_8 (by decide) ?_
    refine mw_bipush (v := 100) dX6_rule_9 (by decide) ?_
    refine mw_cSI (g := fX6_within) dX6_rule_11 ml_X6_50 mfX6_within (ok_X6_within) rfl rfl (Nat.le_of_ble_eq_true rfl) ⟨by decide, by decide⟩ ⟨by decide, by decide⟩ ?_
    refine mw_if_eqB (tgt := 36) dX6_rule_14 (by decide) (fun h14 => ?_) (fun h14 => ?_)
    · skip
      refine mw_iload_n dX6_rule_36 rfl ?_
      refine mw_iconst (v := 1) dX6_rule_37 (by decide) ?_
      refine mw_icmp_ne (tgt := 70) dX6_rule_38 (by decide) (fun h38 => ?_) (fun h38 => ?_)
      · skip
        refine mw_iload_n dX6_rule_70 rfl ?_
        refine mw_iconst (v := 2) dX6_rule_71 (by decide) ?_
        refine mw_icmp_ne (tgt := 102) dX6_rule_72 (by decide) (fun h72 => ?_) (fun h72 => ?_)
        · skip
          refine mw_iload_n dX6_rule_102 rfl ?_
          exact mw_iret dX6_rule_103 rfl (by decide) (by decide) (by
  rw [sRule]
  first
  | (subst h4; rw [if_pos (by grind), c0]; exact ⟨by rw [e5], rfl, tv_up0 (j := 6) (by decide) hA, z.up (by omega)⟩)
  | (subst h38; rw [if_pos (by grind), c1]; exact ⟨by rw [e6], rfl, tv_up0 (j := 7) (by decide) hA, z.up (by omega)⟩)
  | (subst h72; rw [if_pos (by grind), c2]; exact ⟨by rw [e7], rfl, tv_up0 (j := 8) (by decide) hA, z.up (by omega)⟩)
  | (rw [if_neg (by grind)]; exact ⟨rfl, rfl, hA, z⟩))
        · skip
          refine mw_iload_n dX6_rule_75 rfl ?_
          refine mw_iconst (v := 0) dX6_rule_76 (by decide) ?_
          refine mw_sipush (v := 999) dX6_rule_77 (by decide) ?_
          refine mw_cSI (g := fX6_within) dX6_rule_80 ml_X6_50 mfX6_within (ok_X6_within) rfl rfl (Nat.le_of_ble_eq_true rfl) ⟨by decide, by decide⟩ ⟨by decide, by decide⟩ ?_
          refine mw_if_eqB (tgt := 102) dX6_rule_83 (by decide) (fun h83 => ?_) (fun h83 => ?_)
          · skip
            refine mw_iload_n dX6_rule_102 rfl ?_
            exact mw_iret dX6_rule_103 rfl (by decide) (by decide) (by
  rw [sRule]
  first
  | (subst h4; rw [if_pos (by grind), c0]; exact ⟨by rw [e5], rfl, tv_up0 (j := 6) (by decide) hA, z.up (by omega)⟩)
  | (subst h38; rw [if_pos (by grind), c1]; exact ⟨by rw [e6], rfl, tv_up0 (j := 7) (by decide) hA, z.up (by omega)⟩)
  | (subst h72; rw [if_pos (by grind), c2]; exact ⟨by rw [e7], rfl, tv_up0 (j := 8) (by decide) hA, z.up (by omega)⟩)
  | (rw [if_neg (by grind)]; exact ⟨rfl, rfl, hA, z⟩))
          · skip
            refine mw_aload_n dX6_rule_86 rfl ?_
            refine mw_getr dX6_rule_87 fl_X6_10 rfl (by assumption) (by assumption) ?_
            refine mw_geti dX6_rule_90 fl_X6_127 rfl (by assumption) ?_
            refine mw_istN 3 dX6_rule_93 rfl (by decide) ?_
            refine mw_aload_n dX6_rule_94 rfl ?_
            refine mw_getr dX6_rule_95 fl_X6_10 rfl (by assumption) (by assumption) ?_
            refine mw_iload_n dX6_rule_98 rfl ?_
            refine mw_puti dX6_rule_99 fl_X6_127 ft_5_7 rfl (rfl) rfl (by assumption) ?_
            refine mw_iload_n dX6_rule_102 rfl ?_
            exact mw_iret dX6_rule_103 rfl (by decide) (by decide) (by
  rw [sRule]
  first
  | (subst h4; rw [if_pos (by grind), c0]; exact ⟨by rw [e5], rfl, tv_up0 (j := 6) (by decide) hA, z.up (by omega)⟩)
  | (subst h38; rw [if_pos (by grind), c1]; exact ⟨by rw [e6], rfl, tv_up0 (j := 7) (by decide) hA, z.up (by omega)⟩)
  | (subst h72; rw [if_pos (by grind), c2]; exact ⟨by rw [e7], rfl, tv_up0 (j := 8) (by decide) hA, z.up (by omega)⟩)
  | (rw [if_neg (by grind)]; exact ⟨rfl, rfl, hA, z⟩))
      · skip
        refine mw_iload_n dX6_rule_41 rfl ?_
        refine mw_iconst (v := 0) dX6_rule_42 (by decide) ?_
        refine mw_bipush (v := 100) dX6_rule_43 (by decide) ?_
        refine mw_cSI (g := fX6_within) dX6_rule_45 ml_X6_50 mfX6_within (ok_X6_within) rfl rfl (Nat.le_of_ble_eq_true rfl) ⟨by decide, by decide⟩ ⟨by decide, by decide⟩ ?_
        refine mw_if_eqB (tgt := 70) dX6_rule_48 (by decide) (fun h48 => ?_) (fun h48 => ?_)
        · skip
          refine mw_iload_n dX6_rule_70 rfl ?_
          refine mw_iconst (v := 2) dX6_rule_71 (by decide) ?_
          refine mw_icmp_ne (tgt := 102) dX6_rule_72 (by decide) (fun h72 => ?_) (fun h72 => ?_)
          · skip
            refine mw_iload_n dX6_rule_102 rfl ?_
            exact mw_iret dX6_rule_103 rfl (by decide) (by decide) (by
  rw [sRule]
  first
  | (subst h4; rw [if_pos (by grind), c0]; exact ⟨by rw [e5], rfl, tv_up0 (j := 6) (by decide) hA, z.up (by omega)⟩)
  | (subst h38; rw [if_pos (by grind), c1]; exact ⟨by rw [e6], rfl, tv_up0 (j := 7) (by decide) hA, z.up (by omega)⟩)
  | (subst h72; rw [if_pos (by grind), c2]; exact ⟨by rw [e7], rfl, tv_up0 (j := 8) (by decide) hA, z.up (by omega)⟩)
  | (rw [if_neg (by grind)]; exact ⟨rfl, rfl, hA, z⟩))
          · skip
            refine mw_iload_n dX6_rule_75 rfl ?_
            refine mw_iconst (v := 0) dX6_rule_76 (by decide) ?_
            refine mw_sipush (v := 999) dX6_rule_77 (by decide) ?_
            refine mw_cSI (g := fX6_within) dX6_rule_80 ml_X6_50 mfX6_within (ok_X6_within) rfl rfl (Nat.le_of_ble_eq_true rfl) ⟨by decide, by decide⟩ ⟨by decide, by decide⟩ ?_
            refine mw_if_eqB (tgt := 102) dX6_rule_83 (by decide) (fun h83 => ?_) (fun h83 => ?_)
            · skip
              refine mw_iload_n dX6_rule_102 rfl ?_
              exact mw_iret dX6_rule_103 rfl (by decide) (by decide) (by
  rw [sRule]
  first
  | (subst h4; rw [if_pos (by grind), c0]; exact ⟨by rw [e5], rfl, tv_up0 (j := 6) (by decide) hA, z.up (by omega)⟩)
  | (subst h38; rw [if_pos (by grind), c1]; exact ⟨by rw [e6], rfl, tv_up0 (j := 7) (by decide) hA, z.up (by omega)⟩)
  | (subst h72; rw [if_pos (by grind), c2]; exact ⟨by rw [e7], rfl, tv_up0 (j := 8) (by decide) hA, z.up (by omega)⟩)
  | (rw [if_neg (by grind)]; exact ⟨rfl, rfl, hA, z⟩))
            · skip
              refine mw_aload_n dX6_rule_86 rfl ?_
              refine mw_getr dX6_rule_87 fl_X6_10 rfl (by assumption) (by assumption) ?_
              refine mw_geti dX6_rule_90 fl_X6_127 rfl (by assumption) ?_
              refine mw_istN 3 dX6_rule_93 rfl (by decide) ?_
              refine mw_aload_n dX6_rule_94 rfl ?_
              refine mw_getr dX6_rule_95 fl_X6_10 rfl (by assumption) (by assumption) ?_
              refine mw_iload_n dX6_rule_98 rfl ?_
              refine mw_puti dX6_rule_99 fl_X6_127 ft_5_7 rfl (rfl) rfl (by assumption) ?_
              refine mw_iload_n dX6_rule_102 rfl ?_
              exact mw_iret dX6_rule_103 rfl (by decide) (by decide) (by
  rw [sRule]
  first
  | (subst h4; rw [if_pos (by grind), c0]; exact ⟨by rw [e5], rfl, tv_up0 (j := 6) (by decide) hA, z.up (by omega)⟩)
  | (subst h38; rw [if_pos (by grind), c1]; exact ⟨by rw [e6], rfl, tv_up0 (j := 7) (by decide) hA, z.up (by omega)⟩)
  | (subst h72; rw [if_pos (by grind), c2]; exact ⟨by rw [e7], rfl, tv_up0 (j := 8) (by decide) hA, z.up (by omega)⟩)
  | (rw [if_neg (by grind)]; exact ⟨rfl, rfl, hA, z⟩))
        · skip
          refine mw_aload_n dX6_rule_51 rfl ?_
          refine mw_getr dX6_rule_52 fl_X6_10 rfl (by assumption) (by assumption) ?_
          refine mw_geti dX6_rule_55 fl_X6_124 rfl (by assumption) ?_
          refine mw_istN 3 dX6_rule_58 rfl (by decide) ?_
          refine mw_aload_n dX6_rule_59 rfl ?_
          refine mw_getr dX6_rule_60 fl_X6_10 rfl (by assumption) (by assumption) ?_
          refine mw_iload_n dX6_rule_63 rfl ?_
          refine mw_puti dX6_rule_64 fl_X6_124 ft_5_6 rfl (rfl) rfl (by assumption) ?_
          refine mw_goto (tgt := 102) dX6_rule_67 (by decide) ?_
          refine mw_iload_n dX6_rule_102 rfl ?_
          exact mw_iret dX6_rule_103 rfl (by decide) (by decide) (by
  rw [sRule]
  first
  | (subst h4; rw [if_pos (by grind), c0]; exact ⟨by rw [e5], rfl, tv_up0 (j := 6) (by decide) hA, z.up (by omega)⟩)
  | (subst h38; rw [if_pos (by grind), c1]; exact ⟨by rw [e6], rfl, tv_up0 (j := 7) (by decide) hA, z.up (by omega)⟩)
  | (subst h72; rw [if_pos (by grind), c2]; exact ⟨by rw [e7], rfl, tv_up0 (j := 8) (by decide) hA, z.up (by omega)⟩)
  | (rw [if_neg (by grind)]; exact ⟨rfl, rfl, hA, z⟩))
    · skip
      refine mw_aload_n dX6_rule_17 rfl ?_
      refine mw_getr dX6_rule_18 fl_X6_10 rfl (by assumption) (by assumption) ?_
      refine mw_geti dX6_rule_21 fl_X6_121 rfl (by assumption) ?_
      refine mw_istN 3 dX6_rule_24 rfl (by decide) ?_
      refine mw_aload_n dX6_rule_25 rfl ?_
      refine mw_getr dX6_rule_26 fl_X6_10 rfl (by assumption) (by assumption) ?_
      refine mw_iload_n dX6_rule_29 rfl ?_
      refine mw_puti dX6_rule_30 fl_X6_121 ft_5_5 rfl (rfl) rfl (by assumption) ?_
      refine mw_goto (tgt := 102) dX6_rule_33 (by decide) ?_
      refine mw_iload_n dX6_rule_102 rfl ?_
      exact mw_iret dX6_rule_103 rfl (by decide) (by decide) (by
  rw [sRule]
  first
  | (subst h4; rw [if_pos (by grind), c0]; exact ⟨by rw [e5], rfl, tv_up0 (j := 6) (by decide) hA, z.up (by omega)⟩)
  | (subst h38; rw [if_pos (by grind), c1]; exact ⟨by rw [e6], rfl, tv_up0 (j := 7) (by decide) hA, z.up (by omega)⟩)
  | (subst h72; rw [if_pos (by grind), c2]; exact ⟨by rw [e7], rfl, tv_up0 (j := 8) (by decide) hA, z.up (by omega)⟩)
  | (rw [if_neg (by grind)]; exact ⟨rfl, rfl, hA, z⟩))
theorem dX6_seed_0 : decode fX6_seed.2.1 0 = .ok (.aload_n 0, 1) := by decide +kernel
theorem dX6_seed_1 : decode fX6_seed.2.1 1 = .ok (.getfield 10, 3) := by decide +kernel
theorem dX6_seed_4 : decode fX6_seed.2.1 4 = .ok (.getfield 142, 3) := by decide +kernel
theorem dX6_seed_7 : decode fX6_seed.2.1 7 = .ok (.istore_n 2, 1) := by decide +kernel
theorem dX6_seed_8 : decode fX6_seed.2.1 8 = .ok (.aload_n 0, 1) := by decide +kernel
theorem dX6_seed_9 : decode fX6_seed.2.1 9 = .ok (.getfield 10, 3) := by decide +kernel
theorem dX6_seed_12 : decode fX6_seed.2.1 12 = .ok (.iload_n 1, 1) := by decide +kernel
theorem dX6_seed_13 : decode fX6_seed.2.1 13 = .ok (.putfield 142, 3) := by decide +kernel
theorem dX6_seed_16 : decode fX6_seed.2.1 16 = .ok (.iload_n 2, 1) := by decide +kernel
theorem dX6_seed_17 : decode fX6_seed.2.1 17 = .ok (.ireturn, 1) := by decide +kernel
set_option maxRecDepth 100000 in
set_option maxHeartbeats 4000000 in
theorem ok_X6_seed {X : Xb} {S : Sg} {mi : Mem} {x n : Nat} {A : Nat → Int32} {v : Int32} (hX : AsA S x) (hn8 : n ≤ 8) (hA : eqOn (26 + 5 * n) (tv mi (x + 1)) A) (hn : A 1 = nI n) : Ok 2 0 0 fX6_seed X [rf X x, .int v] S mi (PS S mi x (A 0, upd A 0 v, n)) := by
  refine Ok.go [some (rf X x), some (.int v), none] (by decide) (by simp [Value.category]) (Nat.le_of_ble_eq_true rfl) rfl ?_
  obtain ⟨k_x, ⟨r_x_now, t_now⟩, ⟨r_x_thought, t_thought⟩, ⟨r_x_image, t_image⟩, ⟨r_x_tape, t_tape⟩, ⟨r_x_sheets, k_x_sheets⟩, ⟨r_x_slots, k_x_slots⟩, ⟨r_x_waiting, k_x_waiting⟩, ⟨r_x_diff, k_x_diff⟩, a_sheets, a_slots⟩ := id hX
  obtain ⟨k_t, ⟨r_t_home, k_t_home⟩, ⟨r_t_price, k_t_price⟩, ⟨r_t_attics, k_t_attics⟩, ⟨r_t_texts, k_t_texts⟩, ⟨r_t_counting, k_t_counting⟩, ⟨r_t_names, k_t_names⟩, ⟨r_t_pile, k_t_pile⟩, ⟨r_t_views, k_t_views⟩, a_t⟩ := id t_now
  have z := Fr1.rf (x + 1) mi
  have e0 : mi (x + 1) 11 = A 0 := tv_0 (j := 0) hA (by decide) (by omega)
  refine mw_aload_n dX6_seed_0 rfl ?_
  refine mw_getr dX6_seed_1 fl_X6_10 rfl (by assumption) (by assumption) ?_
  refine mw_geti dX6_seed_4 fl_X6_142 rfl (by assumption) ?_
  refine mw_istN 2 dX6_seed_7 rfl (by decide) ?_
  refine mw_aload_n dX6_seed_8 rfl ?_
  refine mw_getr dX6_seed_9 fl_X6_10 rfl (by assumption) (by assumption) ?_
  refine mw_iload_n dX6_seed_12 rfl ?_
  refine mw_puti dX6_seed_13 fl_X6_142 ft_5_11 rfl (rfl) rfl (by assumption) ?_
  refine mw_iload_n dX6_seed_16 rfl ?_
  exact mw_iret dX6_seed_17 rfl (by decide) (by decide) (⟨by rw [e0], rfl, tv_up0 (j := 0) (by decide) hA, z.up (by omega)⟩)
/-- attics drawn, one behind another -/
def dealTo (A : Nat → Int32) (n : Nat) : Nat → Nat → Int32
  | 0 => A
  | k + 1 => drawF (dealTo A n k) (n + k)
theorem dealTo_1 {A : Nat → Int32} {n : Nat} (h : A 1 = nI n) : ∀ k, dealTo A n k 1 = nI (n + k)
  | 0 => h
  | k + 1 => by simp only [dealTo, drawF, comesF, upd]; simp [Nat.add_assoc]
theorem in18 {v : Int32} (h : 1 ≤ v ∧ v ≤ 8) : ∃ k, 1 ≤ k ∧ k ≤ 8 ∧ v = nI k := by
  obtain ⟨j, hj, rfl⟩ := nI_of (Int32.not_lt.mpr (Int32.le_trans (show (0 : Int32) ≤ 1 by decide) h.1))
  exact ⟨j, by have := (nI_leI (a := 1) (by decide) hj).mp h.1; omega, by have := (nI_leI (b := 8) hj (by decide)).mp h.2; omega, rfl⟩
def sDeal (A : Nat → Int32) (n : Nat) (v : Int32) : Sp := if 1 ≤ v ∧ v ≤ 8 then (nI (min v.toNatClampNeg (8 - n)), dealTo A n (min v.toNatClampNeg (8 - n)), n + min v.toNatClampNeg (8 - n)) else (BADi, A, n)
theorem dX6_deal_0 : decode fX6_deal.2.1 0 = .ok (.iload_n 1, 1) := by decide +kernel
theorem dX6_deal_1 : decode fX6_deal.2.1 1 = .ok (.iconst 1, 1) := by decide +kernel
theorem dX6_deal_2 : decode fX6_deal.2.1 2 = .ok (.bipush 8, 2) := by decide +kernel
theorem dX6_deal_4 : decode fX6_deal.2.1 4 = .ok (.invokestatic 50, 3) := by decide +kernel
theorem dX6_deal_7 : decode fX6_deal.2.1 7 = .ok (.ifCond .ne 6, 3) := by decide +kernel
theorem dX6_deal_10 : decode fX6_deal.2.1 10 = .ok (.ldc 58, 2) := by decide +kernel
theorem dX6_deal_12 : decode fX6_deal.2.1 12 = .ok (.ireturn, 1) := by decide +kernel
theorem dX6_deal_13 : decode fX6_deal.2.1 13 = .ok (.iload_n 1, 1) := by decide +kernel
theorem dX6_deal_14 : decode fX6_deal.2.1 14 = .ok (.bipush 8, 2) := by decide +kernel
theorem dX6_deal_16 : decode fX6_deal.2.1 16 = .ok (.aload_n 0, 1) := by decide +kernel
theorem dX6_deal_17 : decode fX6_deal.2.1 17 = .ok (.getfield 10, 3) := by decide +kernel
theorem dX6_deal_20 : decode fX6_deal.2.1 20 = .ok (.getfield 130, 3) := by decide +kernel
theorem dX6_deal_23 : decode fX6_deal.2.1 23 = .ok (.isub, 1) := by decide +kernel
theorem dX6_deal_24 : decode fX6_deal.2.1 24 = .ok (.invokestatic 133, 3) := by decide +kernel
theorem dX6_deal_27 : decode fX6_deal.2.1 27 = .ok (.istore_n 2, 1) := by decide +kernel
theorem dX6_deal_28 : decode fX6_deal.2.1 28 = .ok (.iconst 0, 1) := by decide +kernel
theorem dX6_deal_29 : decode fX6_deal.2.1 29 = .ok (.istore_n 3, 1) := by decide +kernel
theorem dX6_deal_30 : decode fX6_deal.2.1 30 = .ok (.iload_n 3, 1) := by decide +kernel
theorem dX6_deal_31 : decode fX6_deal.2.1 31 = .ok (.iload_n 2, 1) := by decide +kernel
theorem dX6_deal_32 : decode fX6_deal.2.1 32 = .ok (.if_icmp .ge 16, 3) := by decide +kernel
theorem dX6_deal_35 : decode fX6_deal.2.1 35 = .ok (.aload_n 0, 1) := by decide +kernel
theorem dX6_deal_36 : decode fX6_deal.2.1 36 = .ok (.getfield 10, 3) := by decide +kernel
theorem dX6_deal_39 : decode fX6_deal.2.1 39 = .ok (.invokevirtual 139, 3) := by decide +kernel
theorem dX6_deal_42 : decode fX6_deal.2.1 42 = .ok (.iinc 3 1, 3) := by decide +kernel
theorem dX6_deal_45 : decode fX6_deal.2.1 45 = .ok (.goto (-15), 3) := by decide +kernel
theorem dX6_deal_48 : decode fX6_deal.2.1 48 = .ok (.iload_n 2, 1) := by decide +kernel
theorem dX6_deal_49 : decode fX6_deal.2.1 49 = .ok (.ireturn, 1) := by decide +kernel
set_option maxRecDepth 100000 in
set_option maxHeartbeats 4000000 in
theorem ok_X6_deal {X : Xb} {S : Sg} {mi : Mem} {x n : Nat} {A : Nat → Int32} {v : Int32} (hX : AsA S x) (hn8 : n ≤ 8) (hA : eqOn (26 + 5 * n) (tv mi (x + 1)) A) (hn : A 1 = nI n) : Ok 3 0 0 fX6_deal X [rf X x, .int v] S mi (PS S mi x (sDeal A n v)) := by
  refine Ok.go [some (rf X x), some (.int v), none, none] (by decide) (by simp [Value.category]) (Nat.le_of_ble_eq_true rfl) rfl ?_
  obtain ⟨k_x, ⟨r_x_now, t_now⟩, ⟨r_x_thought, t_thought⟩, ⟨r_x_image, t_image⟩, ⟨r_x_tape, t_tape⟩, ⟨r_x_sheets, k_x_sheets⟩, ⟨r_x_slots, k_x_slots⟩, ⟨r_x_waiting, k_x_waiting⟩, ⟨r_x_diff, k_x_diff⟩, a_sheets, a_slots⟩ := id hX
  obtain ⟨k_t, ⟨r_t_home, k_t_home⟩, ⟨r_t_price, k_t_price⟩, ⟨r_t_attics, k_t_attics⟩, ⟨r_t_texts, k_t_texts⟩, ⟨r_t_counting, k_t_counting⟩, ⟨r_t_names, k_t_names⟩, ⟨r_t_pile, k_t_pile⟩, ⟨r_t_views, k_t_views⟩, a_t⟩ := id t_now
  have z := Fr1.rf (x + 1) mi
  have ec : mi (x + 1) 3 = nI n := by rw [show (3 : Nat) = tvF 1 from rfl, tv_0 hA (by decide) (by omega), hn]
  have loop : ∀ q c, c ≤ q → c = min q (8 - n) → 1 ≤ q → q ≤ 8 → v = nI q → MW X fX6_deal (rmOf 3 0 0) 0 0 30 [some (rf X x), some (.int (nI q)), some (.int (nI c)), some (.int (nI 0))] [] S mi (mQ X 0 0 (PS S mi x (sDeal A n v))) := by
    intro q c hcq hc h1 h8 hv
    have ecl : v.toNatClampNeg = q := by rw [hv, nI_clamp (by omega)]
    have hvr : 1 ≤ v ∧ v ≤ 8 := by rw [hv]; exact ⟨nI_le (a := 1) h1 (by omega), nI_le (b := 8) h8 (by decide)⟩
    have lp := mw_dn (P := fun k => ∀ m, eqOn (26 + 5 * (n + k)) (tv m (x + 1)) (dealTo A n k) → Fr1 (x + 1) mi m → MW X fX6_deal (rmOf 3 0 0) 0 0 30 [some (rf X x), some (.int (nI q)), some (.int (nI c)), some (.int (nI k))] [] S m (mQ X 0 0 (PS S mi x (sDeal A n v)))) c (by
      intro m h2 hF
      refine mw_iload_n dX6_deal_30 rfl ?_
      refine mw_iload_n dX6_deal_31 rfl ?_
      refine mw_icmp_ge (tgt := 48) dX6_deal_32 (by decide) (fun h32 => ?_) (fun h32 => ?_)
      · skip
        refine mw_iload_n dX6_deal_48 rfl ?_
        exact mw_iret dX6_deal_49 rfl (by decide) (by decide) (by rw [sDeal, if_pos hvr, ecl, ← hc]; exact ⟨rfl, rfl, h2, hF⟩)
      · skip
        exact absurd (Int32.le_refl _) h32) (fun k hk ih => by
      intro m h2 hF
      refine mw_iload_n dX6_deal_30 rfl ?_
      refine mw_iload_n dX6_deal_31 rfl ?_
      refine mw_icmp_ge (tgt := 48) dX6_deal_32 (by decide) (fun h32 => ?_) (fun h32 => ?_)
      · skip
        exact absurd h32 (nI_ge hk (by omega))
      · skip
        refine mw_aload_n dX6_deal_35 rfl ?_
        refine mw_getr dX6_deal_36 fl_X6_10 rfl (by assumption) (by assumption) ?_
        refine mw_callV (g := fX5_drawAttic) dX6_deal_39 ml_X6_139 mfX5_drawAttic (ok_X5_drawAttic (n := n + k) t_now (by omega) h2 (dealTo_1 hn k)) (by assumption) rfl rfl (Nat.le_of_ble_eq_true rfl) ⟨by decide, by decide⟩ ⟨by decide, by decide⟩ (fun r S2 mi2 hp => ?_)
        obtain ⟨rfl, e1, e2, e3⟩ := hp
        rw [e1]
        refine mw_iincK (k := k) dX6_deal_42 rfl rfl (by decide) ?_
        refine mw_goto (tgt := 30) dX6_deal_45 (by decide) ?_
        exact MW.sub (by simp [lsub]) (ih _ e2 (hF.tr (Fr1.of e3))))
    exact lp mi hA z
  refine mw_iload_n dX6_deal_0 rfl ?_
  refine mw_iconst (v := 1) dX6_deal_1 (by decide) ?_
  refine mw_bipush (v := 8) dX6_deal_2 (by decide) ?_
  refine mw_cSI (g := fX6_within) dX6_deal_4 ml_X6_50 mfX6_within (ok_X6_within) rfl rfl (Nat.le_of_ble_eq_true rfl) ⟨by decide, by decide⟩ ⟨by decide, by decide⟩ ?_
  refine mw_if_neB (tgt := 13) dX6_deal_7 (by decide) (fun h7 => ?_) (fun h7 => ?_)
  · skip
    obtain ⟨q, q1, q8, rfl⟩ := in18 h7
    refine mw_iload_n dX6_deal_13 rfl ?_
    refine mw_bipush (v := 8) dX6_deal_14 (by decide) ?_
    refine mw_aload_n dX6_deal_16 rfl ?_
    refine mw_getr dX6_deal_17 fl_X6_10 rfl (by assumption) (by assumption) ?_
    refine mw_geti dX6_deal_20 fl_X6_130 rfl (by assumption) ?_
    rw [ec]
    refine mw_isub dX6_deal_23 ?_
    rw [show (8 : Int32) - nI n = nI (8 - n) from pk_sub (a := 8) hn8]
    refine mw_mmin dX6_deal_24 ml_X6_133 (Nat.le_of_ble_eq_true rfl) ⟨by decide, by decide⟩ ⟨by decide, by decide⟩ ?_
    refine mw_istN 2 dX6_deal_27 rfl (by decide) ?_
    refine mw_iconst (v := 0) dX6_deal_28 (by decide) ?_
    refine mw_istN 3 dX6_deal_29 rfl (by decide) ?_
    refine MW.sub ?_ (loop q (min q (8 - n)) (by omega) rfl q1 q8 rfl)
    have e : (if nI (8 - n) < nI q then nI (8 - n) else nI q) = nI (min q (8 - n)) := by
      by_cases c : 8 - n < q
      · rw [if_pos (nI_lt c (by omega))]; congr 1; omega
      · rw [if_neg (nI_nlt (by omega) (by omega))]; congr 1; omega
    simp [lsub, nI_0, e]
  · skip
    refine mw_ldc dX6_deal_10 cn_X6_58 ?_
    exact mw_iret dX6_deal_12 rfl (by decide) (by decide) (by rw [sDeal, if_neg h7]; exact ⟨rfl, rfl, hA, z⟩)
def sTown (lw : LawT) (A : Nat → Int32) (n : Nat) (w : Int32) : Int32 := if w = 0 then A 3 else if w = 1 then fld (fun s i => s + A (26 + 5 * i + 4)) 0 n else if w = 2 then A 4 else if w = 3 then jBits (A 9) else if w = 4 then fld (fun s i => s + A (26 + 5 * i + 3)) 0 n else if w = 5 then 255 &&& (fld (fun s i => s ||| rSee A i) 0 n ^^^ (-1)) else if w = 6 then fld (fun s i => s + rRent lw A i) 0 n else BADi
theorem dX6_town_0 : decode fX6_town.2.1 0 = .ok (.iload_n 1, 1) := by decide +kernel
theorem dX6_town_1 : decode fX6_town.2.1 1 = .ok (.tableswitch 102 0 6 #[43, 51, 59, 67, 78, 86, 94], 43) := by decide +kernel
theorem dX6_town_44 : decode fX6_town.2.1 44 = .ok (.aload_n 0, 1) := by decide +kernel
theorem dX6_town_45 : decode fX6_town.2.1 45 = .ok (.getfield 10, 3) := by decide +kernel
theorem dX6_town_48 : decode fX6_town.2.1 48 = .ok (.getfield 145, 3) := by decide +kernel
theorem dX6_town_51 : decode fX6_town.2.1 51 = .ok (.ireturn, 1) := by decide +kernel
theorem dX6_town_52 : decode fX6_town.2.1 52 = .ok (.aload_n 0, 1) := by decide +kernel
theorem dX6_town_53 : decode fX6_town.2.1 53 = .ok (.getfield 10, 3) := by decide +kernel
theorem dX6_town_56 : decode fX6_town.2.1 56 = .ok (.invokevirtual 154, 3) := by decide +kernel
theorem dX6_town_59 : decode fX6_town.2.1 59 = .ok (.ireturn, 1) := by decide +kernel
theorem dX6_town_60 : decode fX6_town.2.1 60 = .ok (.aload_n 0, 1) := by decide +kernel
theorem dX6_town_61 : decode fX6_town.2.1 61 = .ok (.getfield 10, 3) := by decide +kernel
theorem dX6_town_64 : decode fX6_town.2.1 64 = .ok (.getfield 158, 3) := by decide +kernel
theorem dX6_town_67 : decode fX6_town.2.1 67 = .ok (.ireturn, 1) := by decide +kernel
theorem dX6_town_68 : decode fX6_town.2.1 68 = .ok (.aload_n 0, 1) := by decide +kernel
theorem dX6_town_69 : decode fX6_town.2.1 69 = .ok (.getfield 10, 3) := by decide +kernel
theorem dX6_town_72 : decode fX6_town.2.1 72 = .ok (.getfield 118, 3) := by decide +kernel
theorem dX6_town_75 : decode fX6_town.2.1 75 = .ok (.invokestatic 161, 3) := by decide +kernel
theorem dX6_town_78 : decode fX6_town.2.1 78 = .ok (.ireturn, 1) := by decide +kernel
theorem dX6_town_79 : decode fX6_town.2.1 79 = .ok (.aload_n 0, 1) := by decide +kernel
theorem dX6_town_80 : decode fX6_town.2.1 80 = .ok (.getfield 10, 3) := by decide +kernel
theorem dX6_town_83 : decode fX6_town.2.1 83 = .ok (.invokevirtual 166, 3) := by decide +kernel
theorem dX6_town_86 : decode fX6_town.2.1 86 = .ok (.ireturn, 1) := by decide +kernel
theorem dX6_town_87 : decode fX6_town.2.1 87 = .ok (.aload_n 0, 1) := by decide +kernel
theorem dX6_town_88 : decode fX6_town.2.1 88 = .ok (.getfield 10, 3) := by decide +kernel
theorem dX6_town_91 : decode fX6_town.2.1 91 = .ok (.invokevirtual 169, 3) := by decide +kernel
theorem dX6_town_94 : decode fX6_town.2.1 94 = .ok (.ireturn, 1) := by decide +kernel
theorem dX6_town_95 : decode fX6_town.2.1 95 = .ok (.aload_n 0, 1) := by decide +kernel
theorem dX6_town_96 : decode fX6_town.2.1 96 = .ok (.getfield 10, 3) := by decide +kernel
theorem dX6_town_99 : decode fX6_town.2.1 99 = .ok (.invokevirtual 172, 3) := by decide +kernel
theorem dX6_town_102 : decode fX6_town.2.1 102 = .ok (.ireturn, 1) := by decide +kernel
theorem dX6_town_103 : decode fX6_town.2.1 103 = .ok (.ldc 58, 2) := by decide +kernel
theorem dX6_town_105 : decode fX6_town.2.1 105 = .ok (.ireturn, 1) := by decide +kernel
set_option maxRecDepth 100000 in
set_option maxHeartbeats 4000000 in
theorem ok_X6_town {X : Xb} {S : Sg} {mi : Mem} {x n : Nat} {A : Nat → Int32} {lw : LawT} {w : Int32} (hX : AsA S x) (hn8 : n ≤ 8) (hA : eqOn (26 + 5 * n) (tv mi (x + 1)) A) (hn : A 1 = nI n) (hx : TxOk S mi (x + 1) 0) (hl : lwC S mi (x + 1) 0 = lw) : Ok 5 0 0 fX6_town X [rf X x, .int w] S mi (PS S mi x (sTown lw A n w, A, n)) := by
  refine Ok.go [some (rf X x), some (.int w)] (by decide) (by simp [Value.category]) (Nat.le_of_ble_eq_true rfl) rfl ?_
  obtain ⟨k_x, ⟨r_x_now, t_now⟩, ⟨r_x_thought, t_thought⟩, ⟨r_x_image, t_image⟩, ⟨r_x_tape, t_tape⟩, ⟨r_x_sheets, k_x_sheets⟩, ⟨r_x_slots, k_x_slots⟩, ⟨r_x_waiting, k_x_waiting⟩, ⟨r_x_diff, k_x_diff⟩, a_sheets, a_slots⟩ := id hX
  obtain ⟨k_t, ⟨r_t_home, k_t_home⟩, ⟨r_t_price, k_t_price⟩, ⟨r_t_attics, k_t_attics⟩, ⟨r_t_texts, k_t_texts⟩, ⟨r_t_counting, k_t_counting⟩, ⟨r_t_names, k_t_names⟩, ⟨r_t_pile, k_t_pile⟩, ⟨r_t_views, k_t_views⟩, a_t⟩ := id t_now
  have z := Fr1.rf (x + 1) mi
  have ec : mi (x + 1) 3 = nI n := by rw [show (3 : Nat) = tvF 1 from rfl, tv_0 hA (by decide) (by omega), hn]
  have e3 : mi (x + 1) 8 = A 3 := tv_0 (j := 3) hA (by decide) (by omega)
  have e4 : mi (x + 1) 9 = A 4 := tv_0 (j := 4) hA (by decide) (by omega)
  have e9 : mi (x + 1) 4 = A 9 := tv_0 (j := 9) hA (by decide) (by omega)
  refine mw_iload_n dX6_town_0 rfl ?_
  refine mw_ts1 dX6_town_1 (by decide) 0 44 (by decide) (fun h1_0 => ?_) (fun h1_0 => ?_)
  · skip
    refine mw_aload_n dX6_town_44 rfl ?_
    refine mw_getr dX6_town_45 fl_X6_10 rfl (by assumption) (by assumption) ?_
    refine mw_geti dX6_town_48 fl_X6_145 rfl (by assumption) ?_
    exact mw_iret dX6_town_51 rfl (by decide) (by decide) (⟨by simp only [sTown, *]; simp, rfl, hA, z⟩)
  refine mw_ts1 dX6_town_1 (by decide) 1 52 (by decide) (fun h1_1 => ?_) (fun h1_1 => ?_)
  · skip
    refine mw_aload_n dX6_town_52 rfl ?_
    refine mw_getr dX6_town_53 fl_X6_10 rfl (by assumption) (by assumption) ?_
    refine mw_cVI (g := fX5_owedByAll) dX6_town_56 ml_X6_154 mfX5_owedByAll (ok_X5_owedByAll t_now ec hn8) (by assumption) rfl rfl (Nat.le_of_ble_eq_true rfl) ⟨by decide, by decide⟩ ⟨by decide, by decide⟩ ?_
    exact mw_iret dX6_town_59 rfl (by decide) (by decide) (⟨by rw [fld_congr n (fun s k hk => by rw [tv_A (a := k) (f := 4) hA (by decide) (by omega)])]; simp only [sTown, h1_1]; simp, rfl, hA, z⟩)
  refine mw_ts1 dX6_town_1 (by decide) 2 60 (by decide) (fun h1_2 => ?_) (fun h1_2 => ?_)
  · skip
    refine mw_aload_n dX6_town_60 rfl ?_
    refine mw_getr dX6_town_61 fl_X6_10 rfl (by assumption) (by assumption) ?_
    refine mw_geti dX6_town_64 fl_X6_158 rfl (by assumption) ?_
    exact mw_iret dX6_town_67 rfl (by decide) (by decide) (⟨by simp only [sTown, *]; simp, rfl, hA, z⟩)
  refine mw_ts1 dX6_town_1 (by decide) 3 68 (by decide) (fun h1_3 => ?_) (fun h1_3 => ?_)
  · skip
    refine mw_aload_n dX6_town_68 rfl ?_
    refine mw_getr dX6_town_69 fl_X6_10 rfl (by assumption) (by assumption) ?_
    refine mw_geti dX6_town_72 fl_X6_118 rfl (by assumption) ?_
    refine mw_cSI (g := fJ6_bitCount_0f7a4) dX6_town_75 ml_X6_161 mfJ6_bitCount_0f7a4 (ok_J6_bitCount_0f7a4) rfl rfl (Nat.le_of_ble_eq_true rfl) ⟨by decide, by decide⟩ ⟨by decide, by decide⟩ ?_
    exact mw_iret dX6_town_78 rfl (by decide) (by decide) (⟨by simp only [sTown, *]; simp, rfl, hA, z⟩)
  refine mw_ts1 dX6_town_1 (by decide) 4 79 (by decide) (fun h1_4 => ?_) (fun h1_4 => ?_)
  · skip
    refine mw_aload_n dX6_town_79 rfl ?_
    refine mw_getr dX6_town_80 fl_X6_10 rfl (by assumption) (by assumption) ?_
    refine mw_cVI (g := fX5_coinOfAll) dX6_town_83 ml_X6_166 mfX5_coinOfAll (ok_X5_coinOfAll t_now ec hn8) (by assumption) rfl rfl (Nat.le_of_ble_eq_true rfl) ⟨by decide, by decide⟩ ⟨by decide, by decide⟩ ?_
    exact mw_iret dX6_town_86 rfl (by decide) (by decide) (⟨by rw [fld_congr n (fun s k hk => by rw [tv_A (a := k) (f := 3) hA (by decide) (by omega)])]; simp only [sTown, h1_4]; simp, rfl, hA, z⟩)
  refine mw_ts1 dX6_town_1 (by decide) 5 87 (by decide) (fun h1_5 => ?_) (fun h1_5 => ?_)
  · skip
    refine mw_aload_n dX6_town_87 rfl ?_
    refine mw_getr dX6_town_88 fl_X6_10 rfl (by assumption) (by assumption) ?_
    refine mw_cVI (g := fX5_dark) dX6_town_91 ml_X6_169 mfX5_dark (ok_X5_dark t_now ec hn8) (by assumption) rfl rfl (Nat.le_of_ble_eq_true rfl) ⟨by decide, by decide⟩ ⟨by decide, by decide⟩ ?_
    exact mw_iret dX6_town_94 rfl (by decide) (by decide) (⟨by rw [fld_congr n (fun s k hk => by rw [show cSeesA mi (x + 1) k = rSee A k from rSee_of hA (by omega)])]; simp only [sTown, h1_5]; simp, rfl, hA, z⟩)
  refine mw_ts1 dX6_town_1 (by decide) 6 95 (by decide) (fun h1_6 => ?_) (fun h1_6 => ?_)
  · skip
    refine mw_aload_n dX6_town_95 rfl ?_
    refine mw_getr dX6_town_96 fl_X6_10 rfl (by assumption) (by assumption) ?_
    refine mw_callV (g := fX5_rentOfAll) dX6_town_99 ml_X6_172 mfX5_rentOfAll (ok_X5_rentOfAll t_now hn8 hA hn hx hl) (by assumption) rfl rfl (Nat.le_of_ble_eq_true rfl) ⟨by decide, by decide⟩ ⟨by decide, by decide⟩ (fun r S2 mi2 hp => ?_)
    obtain ⟨rfl, e1, hs⟩ := hp
    rw [e1]
    exact mw_iret dX6_town_102 rfl (by decide) (by decide) (⟨by simp only [sTown, h1_6]; simp, rfl, tv_scr hs hA, Fr1.of (Frt.scr hs)⟩)
  refine mw_ts0 dX6_town_1 (by decide) 103 (by decide) (by have e0 := ne_toI (n := 0) (by decide) h1_0; have e1 := ne_toI (n := 1) (by decide) h1_1; have e2 := ne_toI (n := 2) (by decide) h1_2; have e3 := ne_toI (n := 3) (by decide) h1_3; have e4 := ne_toI (n := 4) (by decide) h1_4; have e5 := ne_toI (n := 5) (by decide) h1_5; have e6 := ne_toI (n := 6) (by decide) h1_6; omega) ?_
  refine mw_ldc dX6_town_103 cn_X6_58 ?_
  exact mw_iret dX6_town_105 rfl (by decide) (by decide) (⟨by simp only [sTown, *]; simp, rfl, hA, z⟩)
theorem dX6_cover_0 : decode fX6_cover.2.1 0 = .ok (.iload_n 1, 1) := by decide +kernel
theorem dX6_cover_1 : decode fX6_cover.2.1 1 = .ok (.iconst 0, 1) := by decide +kernel
theorem dX6_cover_2 : decode fX6_cover.2.1 2 = .ok (.sipush 255, 3) := by decide +kernel
theorem dX6_cover_5 : decode fX6_cover.2.1 5 = .ok (.invokestatic 50, 3) := by decide +kernel
theorem dX6_cover_8 : decode fX6_cover.2.1 8 = .ok (.ifCond .ne 6, 3) := by decide +kernel
theorem dX6_cover_11 : decode fX6_cover.2.1 11 = .ok (.ldc 58, 2) := by decide +kernel
theorem dX6_cover_13 : decode fX6_cover.2.1 13 = .ok (.ireturn, 1) := by decide +kernel
theorem dX6_cover_14 : decode fX6_cover.2.1 14 = .ok (.aload_n 0, 1) := by decide +kernel
theorem dX6_cover_15 : decode fX6_cover.2.1 15 = .ok (.getfield 10, 3) := by decide +kernel
theorem dX6_cover_18 : decode fX6_cover.2.1 18 = .ok (.iload_n 1, 1) := by decide +kernel
theorem dX6_cover_19 : decode fX6_cover.2.1 19 = .ok (.invokevirtual 175, 3) := by decide +kernel
theorem dX6_cover_22 : decode fX6_cover.2.1 22 = .ok (.ireturn, 1) := by decide +kernel
def sCover (A : Nat → Int32) (n : Nat) (v : Int32) : Int32 := if 0 ≤ v ∧ v ≤ 255 then (covC (fun i => rSee A i) n v (2 ^ n)).1 else BADi
theorem covC_congr {f g : Nat → Int32} {n : Nat} {v : Int32} (h : ∀ i, i < n → f i = g i) : ∀ s, covC f n v s = covC g n v s
  | 0 => rfl
  | s + 1 => by simp only [covC]; rw [covC_congr h s, viewSet_congr h]
set_option maxRecDepth 100000 in
set_option maxHeartbeats 4000000 in
theorem ok_X6_cover {X : Xb} {S : Sg} {mi : Mem} {x n : Nat} {A : Nat → Int32} {v : Int32} (hX : AsA S x) (hn8 : n ≤ 8) (hA : eqOn (26 + 5 * n) (tv mi (x + 1)) A) (hn : A 1 = nI n) : Ok 4 0 0 fX6_cover X [rf X x, .int v] S mi (PS S mi x (sCover A n v, A, n)) := by
  refine Ok.go [some (rf X x), some (.int v)] (by decide) (by simp [Value.category]) (Nat.le_of_ble_eq_true rfl) rfl ?_
  obtain ⟨k_x, ⟨r_x_now, t_now⟩, ⟨r_x_thought, t_thought⟩, ⟨r_x_image, t_image⟩, ⟨r_x_tape, t_tape⟩, ⟨r_x_sheets, k_x_sheets⟩, ⟨r_x_slots, k_x_slots⟩, ⟨r_x_waiting, k_x_waiting⟩, ⟨r_x_diff, k_x_diff⟩, a_sheets, a_slots⟩ := id hX
  obtain ⟨k_t, ⟨r_t_home, k_t_home⟩, ⟨r_t_price, k_t_price⟩, ⟨r_t_attics, k_t_attics⟩, ⟨r_t_texts, k_t_texts⟩, ⟨r_t_counting, k_t_counting⟩, ⟨r_t_names, k_t_names⟩, ⟨r_t_pile, k_t_pile⟩, ⟨r_t_views, k_t_views⟩, a_t⟩ := id t_now
  have z := Fr1.rf (x + 1) mi
  have ec : mi (x + 1) 3 = nI n := by rw [show (3 : Nat) = tvF 1 from rfl, tv_0 hA (by decide) (by omega), hn]
  refine mw_iload_n dX6_cover_0 rfl ?_
  refine mw_iconst (v := 0) dX6_cover_1 (by decide) ?_
  refine mw_sipush (v := 255) dX6_cover_2 (by decide) ?_
  refine mw_cSI (g := fX6_within) dX6_cover_5 ml_X6_50 mfX6_within (ok_X6_within) rfl rfl (Nat.le_of_ble_eq_true rfl) ⟨by decide, by decide⟩ ⟨by decide, by decide⟩ ?_
  refine mw_if_neB (tgt := 14) dX6_cover_8 (by decide) (fun h8 => ?_) (fun h8 => ?_)
  · skip
    refine mw_aload_n dX6_cover_14 rfl ?_
    refine mw_getr dX6_cover_15 fl_X6_10 rfl (by assumption) (by assumption) ?_
    refine mw_iload_n dX6_cover_18 rfl ?_
    refine mw_callV (g := fX5_fewestFor) dX6_cover_19 ml_X6_175 mfX5_fewestFor (ok_X5_fewestFor t_now ec hn8) (by assumption) rfl rfl (Nat.le_of_ble_eq_true rfl) ⟨by decide, by decide⟩ ⟨by decide, by decide⟩ (fun r S2 mi2 hp => ?_)
    obtain ⟨rfl, e1, hs⟩ := hp
    rw [e1]
    exact mw_iret dX6_cover_22 rfl (by decide) (by decide) (⟨by rw [covC_congr (f := fun i => cSeesA mi (x + 1) i) (g := fun i => rSee A i) (fun i hi => rSee_of hA (by omega))]; simp only [sCover, if_pos h8], rfl, fun j hj => by show tv mi2 (x + 1) j = A j; rw [← hA j hj]; simp only [tv]; rw [hs (x + 1) (by omega), hs (x + 1 + 1) (by omega), hs (x + 1 + 2) (by omega), hs (x + 1 + 9 + (j - 26) / 5) (by omega)], fun a ha => hs a (by omega)⟩)
  · skip
    refine mw_ldc dX6_cover_11 cn_X6_58 ?_
    exact mw_iret dX6_cover_13 rfl (by decide) (by decide) (by rw [sCover, if_neg h8]; exact ⟨rfl, rfl, hA, z⟩)
end
