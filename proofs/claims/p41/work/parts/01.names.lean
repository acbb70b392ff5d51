-- ===== PART A: goes FIRST, ahead of the names: the tables' words, and 'selects' of the private methods out of them =====
/-- a private method of a class that the tables say can be made, by its rows of tables_1 -/
def lw_okq (q : MethodName × Nat) : Prop := (q.1.cls ≠ "java/lang/invoke/MethodHandle" ∧ q.1.cls ≠ "java/lang/invoke/VarHandle") ∧ Cond.instantiable q.1.cls q.2 ∈ tables_1 ∧ Cond.privateMethod q.1 ∈ tables_1 ∧ Cond.instanceMethod q.1 ∈ tables_1
theorem lw_p0 : lw_okq (⟨"OneEarOfTwo$Yard", "slot", "(II)I"⟩, 3) := ⟨⟨by decide +kernel, by decide +kernel⟩, List.mem_of_getElem? (i := 85) (by decide +kernel), List.mem_of_getElem? (i := 419) (by decide +kernel), List.mem_of_getElem? (i := 420) (by decide +kernel)⟩
theorem lw_p1 : lw_okq (⟨"OneEarOfTwo", "addThree", "(LOneEarOfTwo$Shelf;J)Z"⟩, 12) := ⟨⟨by decide +kernel, by decide +kernel⟩, List.mem_of_getElem? (i := 17) (by decide +kernel), List.mem_of_getElem? (i := 443) (by decide +kernel), List.mem_of_getElem? (i := 444) (by decide +kernel)⟩
theorem lw_p2 : lw_okq (⟨"OneEarOfTwo$Changes", "forgetOldest", "()V"⟩, 7) := ⟨⟨by decide +kernel, by decide +kernel⟩, List.mem_of_getElem? (i := 275) (by decide +kernel), List.mem_of_getElem? (i := 467) (by decide +kernel), List.mem_of_getElem? (i := 468) (by decide +kernel)⟩
theorem lw_p3 : lw_okq (⟨"OneEarOfTwo$Law", "readText", "()Z"⟩, 17) := ⟨⟨by decide +kernel, by decide +kernel⟩, List.mem_of_getElem? (i := 25) (by decide +kernel), List.mem_of_getElem? (i := 496) (by decide +kernel), List.mem_of_getElem? (i := 497) (by decide +kernel)⟩
theorem lw_p4 : lw_okq (⟨"OneEarOfTwo$Law", "readLine", "()Z"⟩, 17) := ⟨⟨by decide +kernel, by decide +kernel⟩, List.mem_of_getElem? (i := 25) (by decide +kernel), List.mem_of_getElem? (i := 500) (by decide +kernel), List.mem_of_getElem? (i := 501) (by decide +kernel)⟩
theorem lw_p5 : lw_okq (⟨"OneEarOfTwo$Law", "readChain", "(II)Z"⟩, 17) := ⟨⟨by decide +kernel, by decide +kernel⟩, List.mem_of_getElem? (i := 25) (by decide +kernel), List.mem_of_getElem? (i := 504) (by decide +kernel), List.mem_of_getElem? (i := 505) (by decide +kernel)⟩
theorem lw_p6 : lw_okq (⟨"OneEarOfTwo$Law", "readOperand", "(I)Z"⟩, 17) := ⟨⟨by decide +kernel, by decide +kernel⟩, List.mem_of_getElem? (i := 25) (by decide +kernel), List.mem_of_getElem? (i := 508) (by decide +kernel), List.mem_of_getElem? (i := 509) (by decide +kernel)⟩
theorem lw_p7 : lw_okq (⟨"OneEarOfTwo$Law", "here", "()I"⟩, 17) := ⟨⟨by decide +kernel, by decide +kernel⟩, List.mem_of_getElem? (i := 25) (by decide +kernel), List.mem_of_getElem? (i := 512) (by decide +kernel), List.mem_of_getElem? (i := 513) (by decide +kernel)⟩
theorem lw_p8 : lw_okq (⟨"OneEarOfTwo$Law", "readNumber", "()V"⟩, 17) := ⟨⟨by decide +kernel, by decide +kernel⟩, List.mem_of_getElem? (i := 25) (by decide +kernel), List.mem_of_getElem? (i := 519) (by decide +kernel), List.mem_of_getElem? (i := 520) (by decide +kernel)⟩
theorem lw_p9 : lw_okq (⟨"OneEarOfTwo$Law", "addCode", "(II)V"⟩, 17) := ⟨⟨by decide +kernel, by decide +kernel⟩, List.mem_of_getElem? (i := 25) (by decide +kernel), List.mem_of_getElem? (i := 523) (by decide +kernel), List.mem_of_getElem? (i := 524) (by decide +kernel)⟩
theorem lw_p10 : lw_okq (⟨"OneEarOfTwo$Law", "becomeLaw", "()V"⟩, 17) := ⟨⟨by decide +kernel, by decide +kernel⟩, List.mem_of_getElem? (i := 25) (by decide +kernel), List.mem_of_getElem? (i := 533) (by decide +kernel), List.mem_of_getElem? (i := 534) (by decide +kernel)⟩
theorem lw_p11 : lw_okq (⟨"OneEarOfTwo$Law", "pop", "()I"⟩, 17) := ⟨⟨by decide +kernel, by decide +kernel⟩, List.mem_of_getElem? (i := 25) (by decide +kernel), List.mem_of_getElem? (i := 557) (by decide +kernel), List.mem_of_getElem? (i := 558) (by decide +kernel)⟩
theorem lw_p12 : lw_okq (⟨"OneEarOfTwo$Law", "runCode", "(II)V"⟩, 17) := ⟨⟨by decide +kernel, by decide +kernel⟩, List.mem_of_getElem? (i := 25) (by decide +kernel), List.mem_of_getElem? (i := 561) (by decide +kernel), List.mem_of_getElem? (i := 562) (by decide +kernel)⟩
theorem lw_p13 : lw_okq (⟨"OneEarOfTwo$Law", "push", "(I)V"⟩, 17) := ⟨⟨by decide +kernel, by decide +kernel⟩, List.mem_of_getElem? (i := 25) (by decide +kernel), List.mem_of_getElem? (i := 565) (by decide +kernel), List.mem_of_getElem? (i := 566) (by decide +kernel)⟩
theorem lw_p14 : lw_okq (⟨"OneEarOfTwo$Trip", "begin", "()V"⟩, 14) := ⟨⟨by decide +kernel, by decide +kernel⟩, List.mem_of_getElem? (i := 105) (by decide +kernel), List.mem_of_getElem? (i := 588) (by decide +kernel), List.mem_of_getElem? (i := 589) (by decide +kernel)⟩
theorem lw_p15 : lw_okq (⟨"OneEarOfTwo$Trip", "goOnTo", "(II)Z"⟩, 14) := ⟨⟨by decide +kernel, by decide +kernel⟩, List.mem_of_getElem? (i := 105) (by decide +kernel), List.mem_of_getElem? (i := 603) (by decide +kernel), List.mem_of_getElem? (i := 604) (by decide +kernel)⟩
noncomputable def lw_privs_1 : List (MethodName × Nat) := [(⟨"OneEarOfTwo$Yard", "slot", "(II)I"⟩, 3), (⟨"OneEarOfTwo", "addThree", "(LOneEarOfTwo$Shelf;J)Z"⟩, 12), (⟨"OneEarOfTwo$Changes", "forgetOldest", "()V"⟩, 7), (⟨"OneEarOfTwo$Law", "readText", "()Z"⟩, 17), (⟨"OneEarOfTwo$Law", "readLine", "()Z"⟩, 17), (⟨"OneEarOfTwo$Law", "readChain", "(II)Z"⟩, 17), (⟨"OneEarOfTwo$Law", "readOperand", "(I)Z"⟩, 17), (⟨"OneEarOfTwo$Law", "here", "()I"⟩, 17), (⟨"OneEarOfTwo$Law", "readNumber", "()V"⟩, 17), (⟨"OneEarOfTwo$Law", "addCode", "(II)V"⟩, 17), (⟨"OneEarOfTwo$Law", "becomeLaw", "()V"⟩, 17), (⟨"OneEarOfTwo$Law", "pop", "()I"⟩, 17), (⟨"OneEarOfTwo$Law", "runCode", "(II)V"⟩, 17), (⟨"OneEarOfTwo$Law", "push", "(I)V"⟩, 17), (⟨"OneEarOfTwo$Trip", "begin", "()V"⟩, 14), (⟨"OneEarOfTwo$Trip", "goOnTo", "(II)Z"⟩, 14)]
theorem lw_r1 : ∀ q ∈ lw_privs_1, lw_okq q := List.forall_mem_cons.mpr ⟨lw_p0, List.forall_mem_cons.mpr ⟨lw_p1, List.forall_mem_cons.mpr ⟨lw_p2, List.forall_mem_cons.mpr ⟨lw_p3, List.forall_mem_cons.mpr ⟨lw_p4, List.forall_mem_cons.mpr ⟨lw_p5, List.forall_mem_cons.mpr ⟨lw_p6, List.forall_mem_cons.mpr ⟨lw_p7, List.forall_mem_cons.mpr ⟨lw_p8, List.forall_mem_cons.mpr ⟨lw_p9, List.forall_mem_cons.mpr ⟨lw_p10, List.forall_mem_cons.mpr ⟨lw_p11, List.forall_mem_cons.mpr ⟨lw_p12, List.forall_mem_cons.mpr ⟨lw_p13, List.forall_mem_cons.mpr ⟨lw_p14, List.forall_mem_cons.mpr ⟨lw_p15, fun _ h => absurd h List.not_mem_nil⟩⟩⟩⟩⟩⟩⟩⟩⟩⟩⟩⟩⟩⟩⟩⟩
theorem lw_p16 : lw_okq (⟨"OneEarOfTwo$Orders", "tryFrom", "(IIIII)V"⟩, 5) := ⟨⟨by decide +kernel, by decide +kernel⟩, List.mem_of_getElem? (i := 168) (by decide +kernel), List.mem_of_getElem? (i := 685) (by decide +kernel), List.mem_of_getElem? (i := 686) (by decide +kernel)⟩
theorem lw_p17 : lw_okq (⟨"OneEarOfTwo$Orders", "keepIfBetter", "(I)V"⟩, 5) := ⟨⟨by decide +kernel, by decide +kernel⟩, List.mem_of_getElem? (i := 168) (by decide +kernel), List.mem_of_getElem? (i := 689) (by decide +kernel), List.mem_of_getElem? (i := 690) (by decide +kernel)⟩
theorem lw_p18 : lw_okq (⟨"OneEarOfTwo$Purse", "chooseLeast", "(JJJ)V"⟩, 3) := ⟨⟨by decide +kernel, by decide +kernel⟩, List.mem_of_getElem? (i := 215) (by decide +kernel), List.mem_of_getElem? (i := 725) (by decide +kernel), List.mem_of_getElem? (i := 726) (by decide +kernel)⟩
theorem lw_p19 : lw_okq (⟨"OneEarOfTwo$Purse", "isGoingOnBest", "(II)Z"⟩, 3) := ⟨⟨by decide +kernel, by decide +kernel⟩, List.mem_of_getElem? (i := 215) (by decide +kernel), List.mem_of_getElem? (i := 737) (by decide +kernel), List.mem_of_getElem? (i := 738) (by decide +kernel)⟩
theorem lw_p20 : lw_okq (⟨"OneEarOfTwo$Losses", "drawPlace", "()I"⟩, 5) := ⟨⟨by decide +kernel, by decide +kernel⟩, List.mem_of_getElem? (i := 191) (by decide +kernel), List.mem_of_getElem? (i := 771) (by decide +kernel), List.mem_of_getElem? (i := 772) (by decide +kernel)⟩
theorem lw_p21 : lw_okq (⟨"OneEarOfTwo$Losses", "drawOn", "()V"⟩, 5) := ⟨⟨by decide +kernel, by decide +kernel⟩, List.mem_of_getElem? (i := 191) (by decide +kernel), List.mem_of_getElem? (i := 775) (by decide +kernel), List.mem_of_getElem? (i := 776) (by decide +kernel)⟩
theorem lw_p22 : lw_okq (⟨"OneEarOfTwo$Losses", "seek", "(I)V"⟩, 5) := ⟨⟨by decide +kernel, by decide +kernel⟩, List.mem_of_getElem? (i := 191) (by decide +kernel), List.mem_of_getElem? (i := 782) (by decide +kernel), List.mem_of_getElem? (i := 783) (by decide +kernel)⟩
theorem lw_p23 : lw_okq (⟨"OneEarOfTwo$Losses", "listenThrough", "(I)Z"⟩, 5) := ⟨⟨by decide +kernel, by decide +kernel⟩, List.mem_of_getElem? (i := 191) (by decide +kernel), List.mem_of_getElem? (i := 786) (by decide +kernel), List.mem_of_getElem? (i := 787) (by decide +kernel)⟩
theorem lw_p24 : lw_okq (⟨"OneEarOfTwo$Acts", "own", "(III)I"⟩, 6) := ⟨⟨by decide +kernel, by decide +kernel⟩, List.mem_of_getElem? (i := 305) (by decide +kernel), List.mem_of_getElem? (i := 885) (by decide +kernel), List.mem_of_getElem? (i := 886) (by decide +kernel)⟩
theorem lw_p25 : lw_okq (⟨"OneEarOfTwo$Acts", "actFrom", "(IIII)I"⟩, 6) := ⟨⟨by decide +kernel, by decide +kernel⟩, List.mem_of_getElem? (i := 305) (by decide +kernel), List.mem_of_getElem? (i := 889) (by decide +kernel), List.mem_of_getElem? (i := 890) (by decide +kernel)⟩
theorem lw_p26 : lw_okq (⟨"OneEarOfTwo$Acts", "begin", "(I)V"⟩, 6) := ⟨⟨by decide +kernel, by decide +kernel⟩, List.mem_of_getElem? (i := 305) (by decide +kernel), List.mem_of_getElem? (i := 898) (by decide +kernel), List.mem_of_getElem? (i := 899) (by decide +kernel)⟩
theorem lw_p27 : lw_okq (⟨"OneEarOfTwo$Acts", "actOfBeep", "(III)I"⟩, 6) := ⟨⟨by decide +kernel, by decide +kernel⟩, List.mem_of_getElem? (i := 305) (by decide +kernel), List.mem_of_getElem? (i := 902) (by decide +kernel), List.mem_of_getElem? (i := 903) (by decide +kernel)⟩
theorem lw_p28 : lw_okq (⟨"OneEarOfTwo$Acts", "actOverAbove", "(IIII)I"⟩, 6) := ⟨⟨by decide +kernel, by decide +kernel⟩, List.mem_of_getElem? (i := 305) (by decide +kernel), List.mem_of_getElem? (i := 906) (by decide +kernel), List.mem_of_getElem? (i := 907) (by decide +kernel)⟩
theorem lw_p29 : lw_okq (⟨"OneEarOfTwo$Shelf", "lowestBits", "(J)J"⟩, 5) := ⟨⟨by decide +kernel, by decide +kernel⟩, List.mem_of_getElem? (i := 333) (by decide +kernel), List.mem_of_getElem? (i := 954) (by decide +kernel), List.mem_of_getElem? (i := 955) (by decide +kernel)⟩
theorem lw_p30 : lw_okq (⟨"OneEarOfTwoModel", "addPlace", "(III)I"⟩, 62) := ⟨⟨by decide +kernel, by decide +kernel⟩, List.mem_of_getElem? (i := 995) (by decide +kernel), List.mem_of_getElem? (i := 1196) (by decide +kernel), List.mem_of_getElem? (i := 1197) (by decide +kernel)⟩
theorem lw_p31 : lw_okq (⟨"OneEarOfTwoModel", "lays", "(III)V"⟩, 62) := ⟨⟨by decide +kernel, by decide +kernel⟩, List.mem_of_getElem? (i := 995) (by decide +kernel), List.mem_of_getElem? (i := 1212) (by decide +kernel), List.mem_of_getElem? (i := 1213) (by decide +kernel)⟩
noncomputable def lw_privs_2 : List (MethodName × Nat) := [(⟨"OneEarOfTwo$Orders", "tryFrom", "(IIIII)V"⟩, 5), (⟨"OneEarOfTwo$Orders", "keepIfBetter", "(I)V"⟩, 5), (⟨"OneEarOfTwo$Purse", "chooseLeast", "(JJJ)V"⟩, 3), (⟨"OneEarOfTwo$Purse", "isGoingOnBest", "(II)Z"⟩, 3), (⟨"OneEarOfTwo$Losses", "drawPlace", "()I"⟩, 5), (⟨"OneEarOfTwo$Losses", "drawOn", "()V"⟩, 5), (⟨"OneEarOfTwo$Losses", "seek", "(I)V"⟩, 5), (⟨"OneEarOfTwo$Losses", "listenThrough", "(I)Z"⟩, 5), (⟨"OneEarOfTwo$Acts", "own", "(III)I"⟩, 6), (⟨"OneEarOfTwo$Acts", "actFrom", "(IIII)I"⟩, 6), (⟨"OneEarOfTwo$Acts", "begin", "(I)V"⟩, 6), (⟨"OneEarOfTwo$Acts", "actOfBeep", "(III)I"⟩, 6), (⟨"OneEarOfTwo$Acts", "actOverAbove", "(IIII)I"⟩, 6), (⟨"OneEarOfTwo$Shelf", "lowestBits", "(J)J"⟩, 5), (⟨"OneEarOfTwoModel", "addPlace", "(III)I"⟩, 62), (⟨"OneEarOfTwoModel", "lays", "(III)V"⟩, 62)]
theorem lw_r2 : ∀ q ∈ lw_privs_2, lw_okq q := List.forall_mem_cons.mpr ⟨lw_p16, List.forall_mem_cons.mpr ⟨lw_p17, List.forall_mem_cons.mpr ⟨lw_p18, List.forall_mem_cons.mpr ⟨lw_p19, List.forall_mem_cons.mpr ⟨lw_p20, List.forall_mem_cons.mpr ⟨lw_p21, List.forall_mem_cons.mpr ⟨lw_p22, List.forall_mem_cons.mpr ⟨lw_p23, List.forall_mem_cons.mpr ⟨lw_p24, List.forall_mem_cons.mpr ⟨lw_p25, List.forall_mem_cons.mpr ⟨lw_p26, List.forall_mem_cons.mpr ⟨lw_p27, List.forall_mem_cons.mpr ⟨lw_p28, List.forall_mem_cons.mpr ⟨lw_p29, List.forall_mem_cons.mpr ⟨lw_p30, List.forall_mem_cons.mpr ⟨lw_p31, fun _ h => absurd h List.not_mem_nil⟩⟩⟩⟩⟩⟩⟩⟩⟩⟩⟩⟩⟩⟩⟩⟩
theorem lw_p32 : lw_okq (⟨"OneEarOfTwoModel", "isOne", "(II)Z"⟩, 62) := ⟨⟨by decide +kernel, by decide +kernel⟩, List.mem_of_getElem? (i := 995) (by decide +kernel), List.mem_of_getElem? (i := 1224) (by decide +kernel), List.mem_of_getElem? (i := 1225) (by decide +kernel)⟩
theorem lw_p33 : lw_okq (⟨"OneEarOfTwoModel", "isPlace", "(I)Z"⟩, 62) := ⟨⟨by decide +kernel, by decide +kernel⟩, List.mem_of_getElem? (i := 995) (by decide +kernel), List.mem_of_getElem? (i := 1228) (by decide +kernel), List.mem_of_getElem? (i := 1229) (by decide +kernel)⟩
theorem lw_p34 : lw_okq (⟨"OneEarOfTwoModel", "changes", "(III)I"⟩, 62) := ⟨⟨by decide +kernel, by decide +kernel⟩, List.mem_of_getElem? (i := 995) (by decide +kernel), List.mem_of_getElem? (i := 1235) (by decide +kernel), List.mem_of_getElem? (i := 1236) (by decide +kernel)⟩
theorem lw_p35 : lw_okq (⟨"OneEarOfTwoModel", "valueAt", "(II)I"⟩, 62) := ⟨⟨by decide +kernel, by decide +kernel⟩, List.mem_of_getElem? (i := 995) (by decide +kernel), List.mem_of_getElem? (i := 1239) (by decide +kernel), List.mem_of_getElem? (i := 1240) (by decide +kernel)⟩
theorem lw_p36 : lw_okq (⟨"OneEarOfTwoModel", "readText", "(I)I"⟩, 62) := ⟨⟨by decide +kernel, by decide +kernel⟩, List.mem_of_getElem? (i := 995) (by decide +kernel), List.mem_of_getElem? (i := 1255) (by decide +kernel), List.mem_of_getElem? (i := 1256) (by decide +kernel)⟩
theorem lw_p37 : lw_okq (⟨"OneEarOfTwoModel", "line", "()V"⟩, 62) := ⟨⟨by decide +kernel, by decide +kernel⟩, List.mem_of_getElem? (i := 995) (by decide +kernel), List.mem_of_getElem? (i := 1259) (by decide +kernel), List.mem_of_getElem? (i := 1260) (by decide +kernel)⟩
theorem lw_p38 : lw_okq (⟨"OneEarOfTwoModel", "either", "()V"⟩, 62) := ⟨⟨by decide +kernel, by decide +kernel⟩, List.mem_of_getElem? (i := 995) (by decide +kernel), List.mem_of_getElem? (i := 1263) (by decide +kernel), List.mem_of_getElem? (i := 1264) (by decide +kernel)⟩
theorem lw_p39 : lw_okq (⟨"OneEarOfTwoModel", "both", "()V"⟩, 62) := ⟨⟨by decide +kernel, by decide +kernel⟩, List.mem_of_getElem? (i := 995) (by decide +kernel), List.mem_of_getElem? (i := 1267) (by decide +kernel), List.mem_of_getElem? (i := 1268) (by decide +kernel)⟩
theorem lw_p40 : lw_okq (⟨"OneEarOfTwoModel", "compared", "()V"⟩, 62) := ⟨⟨by decide +kernel, by decide +kernel⟩, List.mem_of_getElem? (i := 995) (by decide +kernel), List.mem_of_getElem? (i := 1271) (by decide +kernel), List.mem_of_getElem? (i := 1272) (by decide +kernel)⟩
theorem lw_p41 : lw_okq (⟨"OneEarOfTwoModel", "sum", "()V"⟩, 62) := ⟨⟨by decide +kernel, by decide +kernel⟩, List.mem_of_getElem? (i := 995) (by decide +kernel), List.mem_of_getElem? (i := 1275) (by decide +kernel), List.mem_of_getElem? (i := 1276) (by decide +kernel)⟩
theorem lw_p42 : lw_okq (⟨"OneEarOfTwoModel", "product", "()V"⟩, 62) := ⟨⟨by decide +kernel, by decide +kernel⟩, List.mem_of_getElem? (i := 995) (by decide +kernel), List.mem_of_getElem? (i := 1279) (by decide +kernel), List.mem_of_getElem? (i := 1280) (by decide +kernel)⟩
theorem lw_p43 : lw_okq (⟨"OneEarOfTwoModel", "operand", "()V"⟩, 62) := ⟨⟨by decide +kernel, by decide +kernel⟩, List.mem_of_getElem? (i := 995) (by decide +kernel), List.mem_of_getElem? (i := 1283) (by decide +kernel), List.mem_of_getElem? (i := 1284) (by decide +kernel)⟩
theorem lw_p44 : lw_okq (⟨"OneEarOfTwoModel", "look", "()I"⟩, 62) := ⟨⟨by decide +kernel, by decide +kernel⟩, List.mem_of_getElem? (i := 995) (by decide +kernel), List.mem_of_getElem? (i := 1287) (by decide +kernel), List.mem_of_getElem? (i := 1288) (by decide +kernel)⟩
theorem lw_p45 : lw_okq (⟨"OneEarOfTwoModel", "addStep", "(II)V"⟩, 62) := ⟨⟨by decide +kernel, by decide +kernel⟩, List.mem_of_getElem? (i := 995) (by decide +kernel), List.mem_of_getElem? (i := 1294) (by decide +kernel), List.mem_of_getElem? (i := 1295) (by decide +kernel)⟩
theorem lw_p46 : lw_okq (⟨"OneEarOfTwoModel", "opens", "()Z"⟩, 62) := ⟨⟨by decide +kernel, by decide +kernel⟩, List.mem_of_getElem? (i := 995) (by decide +kernel), List.mem_of_getElem? (i := 1298) (by decide +kernel), List.mem_of_getElem? (i := 1299) (by decide +kernel)⟩
theorem lw_p47 : lw_okq (⟨"OneEarOfTwoModel", "wrong", "()V"⟩, 62) := ⟨⟨by decide +kernel, by decide +kernel⟩, List.mem_of_getElem? (i := 995) (by decide +kernel), List.mem_of_getElem? (i := 1302) (by decide +kernel), List.mem_of_getElem? (i := 1303) (by decide +kernel)⟩
noncomputable def lw_privs_3 : List (MethodName × Nat) := [(⟨"OneEarOfTwoModel", "isOne", "(II)Z"⟩, 62), (⟨"OneEarOfTwoModel", "isPlace", "(I)Z"⟩, 62), (⟨"OneEarOfTwoModel", "changes", "(III)I"⟩, 62), (⟨"OneEarOfTwoModel", "valueAt", "(II)I"⟩, 62), (⟨"OneEarOfTwoModel", "readText", "(I)I"⟩, 62), (⟨"OneEarOfTwoModel", "line", "()V"⟩, 62), (⟨"OneEarOfTwoModel", "either", "()V"⟩, 62), (⟨"OneEarOfTwoModel", "both", "()V"⟩, 62), (⟨"OneEarOfTwoModel", "compared", "()V"⟩, 62), (⟨"OneEarOfTwoModel", "sum", "()V"⟩, 62), (⟨"OneEarOfTwoModel", "product", "()V"⟩, 62), (⟨"OneEarOfTwoModel", "operand", "()V"⟩, 62), (⟨"OneEarOfTwoModel", "look", "()I"⟩, 62), (⟨"OneEarOfTwoModel", "addStep", "(II)V"⟩, 62), (⟨"OneEarOfTwoModel", "opens", "()Z"⟩, 62), (⟨"OneEarOfTwoModel", "wrong", "()V"⟩, 62)]
theorem lw_r3 : ∀ q ∈ lw_privs_3, lw_okq q := List.forall_mem_cons.mpr ⟨lw_p32, List.forall_mem_cons.mpr ⟨lw_p33, List.forall_mem_cons.mpr ⟨lw_p34, List.forall_mem_cons.mpr ⟨lw_p35, List.forall_mem_cons.mpr ⟨lw_p36, List.forall_mem_cons.mpr ⟨lw_p37, List.forall_mem_cons.mpr ⟨lw_p38, List.forall_mem_cons.mpr ⟨lw_p39, List.forall_mem_cons.mpr ⟨lw_p40, List.forall_mem_cons.mpr ⟨lw_p41, List.forall_mem_cons.mpr ⟨lw_p42, List.forall_mem_cons.mpr ⟨lw_p43, List.forall_mem_cons.mpr ⟨lw_p44, List.forall_mem_cons.mpr ⟨lw_p45, List.forall_mem_cons.mpr ⟨lw_p46, List.forall_mem_cons.mpr ⟨lw_p47, fun _ h => absurd h List.not_mem_nil⟩⟩⟩⟩⟩⟩⟩⟩⟩⟩⟩⟩⟩⟩⟩⟩
theorem lw_p48 : lw_okq (⟨"OneEarOfTwoModel", "figure", "()V"⟩, 62) := ⟨⟨by decide +kernel, by decide +kernel⟩, List.mem_of_getElem? (i := 995) (by decide +kernel), List.mem_of_getElem? (i := 1306) (by decide +kernel), List.mem_of_getElem? (i := 1307) (by decide +kernel)⟩
theorem lw_p49 : lw_okq (⟨"OneEarOfTwoModel", "hearsBy", "(III)I"⟩, 62) := ⟨⟨by decide +kernel, by decide +kernel⟩, List.mem_of_getElem? (i := 995) (by decide +kernel), List.mem_of_getElem? (i := 1315) (by decide +kernel), List.mem_of_getElem? (i := 1316) (by decide +kernel)⟩
theorem lw_p50 : lw_okq (⟨"OneEarOfTwoModel", "gives", "(I)I"⟩, 62) := ⟨⟨by decide +kernel, by decide +kernel⟩, List.mem_of_getElem? (i := 995) (by decide +kernel), List.mem_of_getElem? (i := 1319) (by decide +kernel), List.mem_of_getElem? (i := 1320) (by decide +kernel)⟩
theorem lw_p51 : lw_okq (⟨"OneEarOfTwoModel", "worked", "(III)I"⟩, 62) := ⟨⟨by decide +kernel, by decide +kernel⟩, List.mem_of_getElem? (i := 995) (by decide +kernel), List.mem_of_getElem? (i := 1323) (by decide +kernel), List.mem_of_getElem? (i := 1324) (by decide +kernel)⟩
theorem lw_p52 : lw_okq (⟨"OneEarOfTwoModel", "rowFault", "(I)I"⟩, 62) := ⟨⟨by decide +kernel, by decide +kernel⟩, List.mem_of_getElem? (i := 995) (by decide +kernel), List.mem_of_getElem? (i := 1334) (by decide +kernel), List.mem_of_getElem? (i := 1335) (by decide +kernel)⟩
theorem lw_p53 : lw_okq (⟨"OneEarOfTwoModel", "goRound", "(II)I"⟩, 62) := ⟨⟨by decide +kernel, by decide +kernel⟩, List.mem_of_getElem? (i := 995) (by decide +kernel), List.mem_of_getElem? (i := 1338) (by decide +kernel), List.mem_of_getElem? (i := 1339) (by decide +kernel)⟩
theorem lw_p54 : lw_okq (⟨"OneEarOfTwoModel", "beginRound", "()V"⟩, 62) := ⟨⟨by decide +kernel, by decide +kernel⟩, List.mem_of_getElem? (i := 995) (by decide +kernel), List.mem_of_getElem? (i := 1342) (by decide +kernel), List.mem_of_getElem? (i := 1343) (by decide +kernel)⟩
theorem lw_p55 : lw_okq (⟨"OneEarOfTwoModel", "allOdds", "()I"⟩, 62) := ⟨⟨by decide +kernel, by decide +kernel⟩, List.mem_of_getElem? (i := 995) (by decide +kernel), List.mem_of_getElem? (i := 1346) (by decide +kernel), List.mem_of_getElem? (i := 1347) (by decide +kernel)⟩
theorem lw_p56 : lw_okq (⟨"OneEarOfTwoModel", "counts", "(II)Z"⟩, 62) := ⟨⟨by decide +kernel, by decide +kernel⟩, List.mem_of_getElem? (i := 995) (by decide +kernel), List.mem_of_getElem? (i := 1354) (by decide +kernel), List.mem_of_getElem? (i := 1355) (by decide +kernel)⟩
theorem lw_p57 : lw_okq (⟨"OneEarOfTwoModel", "element1", "(II)I"⟩, 62) := ⟨⟨by decide +kernel, by decide +kernel⟩, List.mem_of_getElem? (i := 995) (by decide +kernel), List.mem_of_getElem? (i := 1358) (by decide +kernel), List.mem_of_getElem? (i := 1359) (by decide +kernel)⟩
theorem lw_p58 : lw_okq (⟨"OneEarOfTwoModel", "endsIn", "(II)Z"⟩, 62) := ⟨⟨by decide +kernel, by decide +kernel⟩, List.mem_of_getElem? (i := 995) (by decide +kernel), List.mem_of_getElem? (i := 1362) (by decide +kernel), List.mem_of_getElem? (i := 1363) (by decide +kernel)⟩
theorem lw_p59 : lw_okq (⟨"OneEarOfTwoModel", "wayTo", "(I)I"⟩, 62) := ⟨⟨by decide +kernel, by decide +kernel⟩, List.mem_of_getElem? (i := 995) (by decide +kernel), List.mem_of_getElem? (i := 1366) (by decide +kernel), List.mem_of_getElem? (i := 1367) (by decide +kernel)⟩
theorem lw_p60 : lw_okq (⟨"OneEarOfTwoModel", "goTo", "(II)V"⟩, 62) := ⟨⟨by decide +kernel, by decide +kernel⟩, List.mem_of_getElem? (i := 995) (by decide +kernel), List.mem_of_getElem? (i := 1373) (by decide +kernel), List.mem_of_getElem? (i := 1374) (by decide +kernel)⟩
theorem lw_p61 : lw_okq (⟨"OneEarOfTwoModel", "listensIn", "(II)I"⟩, 62) := ⟨⟨by decide +kernel, by decide +kernel⟩, List.mem_of_getElem? (i := 995) (by decide +kernel), List.mem_of_getElem? (i := 1377) (by decide +kernel), List.mem_of_getElem? (i := 1378) (by decide +kernel)⟩
theorem lw_p62 : lw_okq (⟨"OneEarOfTwoModel", "likeliest", "()I"⟩, 62) := ⟨⟨by decide +kernel, by decide +kernel⟩, List.mem_of_getElem? (i := 995) (by decide +kernel), List.mem_of_getElem? (i := 1385) (by decide +kernel), List.mem_of_getElem? (i := 1386) (by decide +kernel)⟩
theorem lw_p63 : lw_okq (⟨"OneEarOfTwoModel", "leftAll", "()I"⟩, 62) := ⟨⟨by decide +kernel, by decide +kernel⟩, List.mem_of_getElem? (i := 995) (by decide +kernel), List.mem_of_getElem? (i := 1390) (by decide +kernel), List.mem_of_getElem? (i := 1391) (by decide +kernel)⟩
noncomputable def lw_privs_4 : List (MethodName × Nat) := [(⟨"OneEarOfTwoModel", "figure", "()V"⟩, 62), (⟨"OneEarOfTwoModel", "hearsBy", "(III)I"⟩, 62), (⟨"OneEarOfTwoModel", "gives", "(I)I"⟩, 62), (⟨"OneEarOfTwoModel", "worked", "(III)I"⟩, 62), (⟨"OneEarOfTwoModel", "rowFault", "(I)I"⟩, 62), (⟨"OneEarOfTwoModel", "goRound", "(II)I"⟩, 62), (⟨"OneEarOfTwoModel", "beginRound", "()V"⟩, 62), (⟨"OneEarOfTwoModel", "allOdds", "()I"⟩, 62), (⟨"OneEarOfTwoModel", "counts", "(II)Z"⟩, 62), (⟨"OneEarOfTwoModel", "element1", "(II)I"⟩, 62), (⟨"OneEarOfTwoModel", "endsIn", "(II)Z"⟩, 62), (⟨"OneEarOfTwoModel", "wayTo", "(I)I"⟩, 62), (⟨"OneEarOfTwoModel", "goTo", "(II)V"⟩, 62), (⟨"OneEarOfTwoModel", "listensIn", "(II)I"⟩, 62), (⟨"OneEarOfTwoModel", "likeliest", "()I"⟩, 62), (⟨"OneEarOfTwoModel", "leftAll", "()I"⟩, 62)]
theorem lw_r4 : ∀ q ∈ lw_privs_4, lw_okq q := List.forall_mem_cons.mpr ⟨lw_p48, List.forall_mem_cons.mpr ⟨lw_p49, List.forall_mem_cons.mpr ⟨lw_p50, List.forall_mem_cons.mpr ⟨lw_p51, List.forall_mem_cons.mpr ⟨lw_p52, List.forall_mem_cons.mpr ⟨lw_p53, List.forall_mem_cons.mpr ⟨lw_p54, List.forall_mem_cons.mpr ⟨lw_p55, List.forall_mem_cons.mpr ⟨lw_p56, List.forall_mem_cons.mpr ⟨lw_p57, List.forall_mem_cons.mpr ⟨lw_p58, List.forall_mem_cons.mpr ⟨lw_p59, List.forall_mem_cons.mpr ⟨lw_p60, List.forall_mem_cons.mpr ⟨lw_p61, List.forall_mem_cons.mpr ⟨lw_p62, List.forall_mem_cons.mpr ⟨lw_p63, fun _ h => absurd h List.not_mem_nil⟩⟩⟩⟩⟩⟩⟩⟩⟩⟩⟩⟩⟩⟩⟩⟩
theorem lw_p64 : lw_okq (⟨"OneEarOfTwoModel", "growth", "(II)I"⟩, 62) := ⟨⟨by decide +kernel, by decide +kernel⟩, List.mem_of_getElem? (i := 995) (by decide +kernel), List.mem_of_getElem? (i := 1402) (by decide +kernel), List.mem_of_getElem? (i := 1403) (by decide +kernel)⟩
theorem lw_p65 : lw_okq (⟨"OneEarOfTwoModel", "goOrders", "(IIII)V"⟩, 62) := ⟨⟨by decide +kernel, by decide +kernel⟩, List.mem_of_getElem? (i := 995) (by decide +kernel), List.mem_of_getElem? (i := 1418) (by decide +kernel), List.mem_of_getElem? (i := 1419) (by decide +kernel)⟩
theorem lw_p66 : lw_okq (⟨"OneEarOfTwoModel", "tryOrder", "(II)V"⟩, 62) := ⟨⟨by decide +kernel, by decide +kernel⟩, List.mem_of_getElem? (i := 995) (by decide +kernel), List.mem_of_getElem? (i := 1422) (by decide +kernel), List.mem_of_getElem? (i := 1423) (by decide +kernel)⟩
theorem lw_p67 : lw_okq (⟨"OneEarOfTwoModel", "apartFrom", "(II)I"⟩, 62) := ⟨⟨by decide +kernel, by decide +kernel⟩, List.mem_of_getElem? (i := 995) (by decide +kernel), List.mem_of_getElem? (i := 1434) (by decide +kernel), List.mem_of_getElem? (i := 1435) (by decide +kernel)⟩
theorem lw_p68 : lw_okq (⟨"OneEarOfTwoModel", "findYears", "()V"⟩, 62) := ⟨⟨by decide +kernel, by decide +kernel⟩, List.mem_of_getElem? (i := 995) (by decide +kernel), List.mem_of_getElem? (i := 1446) (by decide +kernel), List.mem_of_getElem? (i := 1447) (by decide +kernel)⟩
theorem lw_p69 : lw_okq (⟨"OneEarOfTwoModel", "doneIn", "(I)I"⟩, 62) := ⟨⟨by decide +kernel, by decide +kernel⟩, List.mem_of_getElem? (i := 995) (by decide +kernel), List.mem_of_getElem? (i := 1451) (by decide +kernel), List.mem_of_getElem? (i := 1452) (by decide +kernel)⟩
theorem lw_p70 : lw_okq (⟨"OneEarOfTwoModel", "bought", "(II)J"⟩, 62) := ⟨⟨by decide +kernel, by decide +kernel⟩, List.mem_of_getElem? (i := 995) (by decide +kernel), List.mem_of_getElem? (i := 1455) (by decide +kernel), List.mem_of_getElem? (i := 1456) (by decide +kernel)⟩
theorem lw_p71 : lw_okq (⟨"OneEarOfTwoModel", "liesBy", "(I)I"⟩, 62) := ⟨⟨by decide +kernel, by decide +kernel⟩, List.mem_of_getElem? (i := 995) (by decide +kernel), List.mem_of_getElem? (i := 1480) (by decide +kernel), List.mem_of_getElem? (i := 1481) (by decide +kernel)⟩
theorem lw_p72 : lw_okq (⟨"OneEarOfTwoModel", "foundIn", "(II)I"⟩, 62) := ⟨⟨by decide +kernel, by decide +kernel⟩, List.mem_of_getElem? (i := 995) (by decide +kernel), List.mem_of_getElem? (i := 1484) (by decide +kernel), List.mem_of_getElem? (i := 1485) (by decide +kernel)⟩
theorem lw_p73 : lw_okq (⟨"OneEarOfTwoModel", "layDeed", "()V"⟩, 62) := ⟨⟨by decide +kernel, by decide +kernel⟩, List.mem_of_getElem? (i := 995) (by decide +kernel), List.mem_of_getElem? (i := 1492) (by decide +kernel), List.mem_of_getElem? (i := 1493) (by decide +kernel)⟩
theorem lw_p74 : lw_okq (⟨"OneEarOfTwoModel", "isBody", "(I)Z"⟩, 62) := ⟨⟨by decide +kernel, by decide +kernel⟩, List.mem_of_getElem? (i := 995) (by decide +kernel), List.mem_of_getElem? (i := 1532) (by decide +kernel), List.mem_of_getElem? (i := 1533) (by decide +kernel)⟩
theorem lw_p75 : lw_okq (⟨"OneEarOfTwoModel", "lying", "(II)I"⟩, 62) := ⟨⟨by decide +kernel, by decide +kernel⟩, List.mem_of_getElem? (i := 995) (by decide +kernel), List.mem_of_getElem? (i := 1536) (by decide +kernel), List.mem_of_getElem? (i := 1537) (by decide +kernel)⟩
theorem lw_p76 : lw_okq (⟨"OneEarOfTwoModel", "ran", "(I)V"⟩, 62) := ⟨⟨by decide +kernel, by decide +kernel⟩, List.mem_of_getElem? (i := 995) (by decide +kernel), List.mem_of_getElem? (i := 1543) (by decide +kernel), List.mem_of_getElem? (i := 1544) (by decide +kernel)⟩
theorem lw_p77 : lw_okq (⟨"OneEarOfTwoModel", "plainLies", "(II)I"⟩, 62) := ⟨⟨by decide +kernel, by decide +kernel⟩, List.mem_of_getElem? (i := 995) (by decide +kernel), List.mem_of_getElem? (i := 1547) (by decide +kernel), List.mem_of_getElem? (i := 1548) (by decide +kernel)⟩
theorem lw_p78 : lw_okq (⟨"OneEarOfTwoModel", "troddenLies", "(II)I"⟩, 62) := ⟨⟨by decide +kernel, by decide +kernel⟩, List.mem_of_getElem? (i := 995) (by decide +kernel), List.mem_of_getElem? (i := 1551) (by decide +kernel), List.mem_of_getElem? (i := 1552) (by decide +kernel)⟩
theorem lw_p79 : lw_okq (⟨"OneEarOfTwoModel", "hearing", "(II)I"⟩, 62) := ⟨⟨by decide +kernel, by decide +kernel⟩, List.mem_of_getElem? (i := 995) (by decide +kernel), List.mem_of_getElem? (i := 1555) (by decide +kernel), List.mem_of_getElem? (i := 1556) (by decide +kernel)⟩
noncomputable def lw_privs_5 : List (MethodName × Nat) := [(⟨"OneEarOfTwoModel", "growth", "(II)I"⟩, 62), (⟨"OneEarOfTwoModel", "goOrders", "(IIII)V"⟩, 62), (⟨"OneEarOfTwoModel", "tryOrder", "(II)V"⟩, 62), (⟨"OneEarOfTwoModel", "apartFrom", "(II)I"⟩, 62), (⟨"OneEarOfTwoModel", "findYears", "()V"⟩, 62), (⟨"OneEarOfTwoModel", "doneIn", "(I)I"⟩, 62), (⟨"OneEarOfTwoModel", "bought", "(II)J"⟩, 62), (⟨"OneEarOfTwoModel", "liesBy", "(I)I"⟩, 62), (⟨"OneEarOfTwoModel", "foundIn", "(II)I"⟩, 62), (⟨"OneEarOfTwoModel", "layDeed", "()V"⟩, 62), (⟨"OneEarOfTwoModel", "isBody", "(I)Z"⟩, 62), (⟨"OneEarOfTwoModel", "lying", "(II)I"⟩, 62), (⟨"OneEarOfTwoModel", "ran", "(I)V"⟩, 62), (⟨"OneEarOfTwoModel", "plainLies", "(II)I"⟩, 62), (⟨"OneEarOfTwoModel", "troddenLies", "(II)I"⟩, 62), (⟨"OneEarOfTwoModel", "hearing", "(II)I"⟩, 62)]
theorem lw_r5 : ∀ q ∈ lw_privs_5, lw_okq q := List.forall_mem_cons.mpr ⟨lw_p64, List.forall_mem_cons.mpr ⟨lw_p65, List.forall_mem_cons.mpr ⟨lw_p66, List.forall_mem_cons.mpr ⟨lw_p67, List.forall_mem_cons.mpr ⟨lw_p68, List.forall_mem_cons.mpr ⟨lw_p69, List.forall_mem_cons.mpr ⟨lw_p70, List.forall_mem_cons.mpr ⟨lw_p71, List.forall_mem_cons.mpr ⟨lw_p72, List.forall_mem_cons.mpr ⟨lw_p73, List.forall_mem_cons.mpr ⟨lw_p74, List.forall_mem_cons.mpr ⟨lw_p75, List.forall_mem_cons.mpr ⟨lw_p76, List.forall_mem_cons.mpr ⟨lw_p77, List.forall_mem_cons.mpr ⟨lw_p78, List.forall_mem_cons.mpr ⟨lw_p79, fun _ h => absurd h List.not_mem_nil⟩⟩⟩⟩⟩⟩⟩⟩⟩⟩⟩⟩⟩⟩⟩⟩
theorem lw_p80 : lw_okq (⟨"OneEarOfTwoModel", "heardHears", "(II)I"⟩, 62) := ⟨⟨by decide +kernel, by decide +kernel⟩, List.mem_of_getElem? (i := 995) (by decide +kernel), List.mem_of_getElem? (i := 1559) (by decide +kernel), List.mem_of_getElem? (i := 1560) (by decide +kernel)⟩
theorem lw_p81 : lw_okq (⟨"OneEarOfTwoModel", "plainHears", "(II)I"⟩, 62) := ⟨⟨by decide +kernel, by decide +kernel⟩, List.mem_of_getElem? (i := 995) (by decide +kernel), List.mem_of_getElem? (i := 1563) (by decide +kernel), List.mem_of_getElem? (i := 1564) (by decide +kernel)⟩
theorem lw_p82 : lw_okq (⟨"OneEarOfTwoModel", "waiting", "(II)I"⟩, 62) := ⟨⟨by decide +kernel, by decide +kernel⟩, List.mem_of_getElem? (i := 995) (by decide +kernel), List.mem_of_getElem? (i := 1567) (by decide +kernel), List.mem_of_getElem? (i := 1568) (by decide +kernel)⟩
theorem lw_p83 : lw_okq (⟨"OneEarOfTwoModel", "silentWaits", "(II)I"⟩, 62) := ⟨⟨by decide +kernel, by decide +kernel⟩, List.mem_of_getElem? (i := 995) (by decide +kernel), List.mem_of_getElem? (i := 1571) (by decide +kernel), List.mem_of_getElem? (i := 1572) (by decide +kernel)⟩
theorem lw_p84 : lw_okq (⟨"OneEarOfTwoModel", "plainWaits", "(II)I"⟩, 62) := ⟨⟨by decide +kernel, by decide +kernel⟩, List.mem_of_getElem? (i := 995) (by decide +kernel), List.mem_of_getElem? (i := 1575) (by decide +kernel), List.mem_of_getElem? (i := 1576) (by decide +kernel)⟩
theorem lw_p85 : lw_okq (⟨"OneEarOfTwoModel", "telling", "(II)I"⟩, 62) := ⟨⟨by decide +kernel, by decide +kernel⟩, List.mem_of_getElem? (i := 995) (by decide +kernel), List.mem_of_getElem? (i := 1579) (by decide +kernel), List.mem_of_getElem? (i := 1580) (by decide +kernel)⟩
theorem lw_p86 : lw_okq (⟨"OneEarOfTwoModel", "plainTells", "(II)I"⟩, 62) := ⟨⟨by decide +kernel, by decide +kernel⟩, List.mem_of_getElem? (i := 995) (by decide +kernel), List.mem_of_getElem? (i := 1583) (by decide +kernel), List.mem_of_getElem? (i := 1584) (by decide +kernel)⟩
theorem lw_p87 : lw_okq (⟨"OneEarOfTwoModel", "whyNoPlace", "(II)I"⟩, 62) := ⟨⟨by decide +kernel, by decide +kernel⟩, List.mem_of_getElem? (i := 995) (by decide +kernel), List.mem_of_getElem? (i := 1603) (by decide +kernel), List.mem_of_getElem? (i := 1604) (by decide +kernel)⟩
noncomputable def lw_privs_6 : List (MethodName × Nat) := [(⟨"OneEarOfTwoModel", "heardHears", "(II)I"⟩, 62), (⟨"OneEarOfTwoModel", "plainHears", "(II)I"⟩, 62), (⟨"OneEarOfTwoModel", "waiting", "(II)I"⟩, 62), (⟨"OneEarOfTwoModel", "silentWaits", "(II)I"⟩, 62), (⟨"OneEarOfTwoModel", "plainWaits", "(II)I"⟩, 62), (⟨"OneEarOfTwoModel", "telling", "(II)I"⟩, 62), (⟨"OneEarOfTwoModel", "plainTells", "(II)I"⟩, 62), (⟨"OneEarOfTwoModel", "whyNoPlace", "(II)I"⟩, 62)]
theorem lw_r6 : ∀ q ∈ lw_privs_6, lw_okq q := List.forall_mem_cons.mpr ⟨lw_p80, List.forall_mem_cons.mpr ⟨lw_p81, List.forall_mem_cons.mpr ⟨lw_p82, List.forall_mem_cons.mpr ⟨lw_p83, List.forall_mem_cons.mpr ⟨lw_p84, List.forall_mem_cons.mpr ⟨lw_p85, List.forall_mem_cons.mpr ⟨lw_p86, List.forall_mem_cons.mpr ⟨lw_p87, fun _ h => absurd h List.not_mem_nil⟩⟩⟩⟩⟩⟩⟩⟩
noncomputable def lw_privs : List (MethodName × Nat) := lw_privs_1 ++ (lw_privs_2 ++ (lw_privs_3 ++ (lw_privs_4 ++ (lw_privs_5 ++ (lw_privs_6)))))
noncomputable def lw_tbl : List Cond := k2_sels lw_privs ++ tables_1
theorem lw_privs_ok : ∀ q ∈ lw_privs, lw_okq q := by
  show ∀ q ∈ lw_privs_1 ++ (lw_privs_2 ++ (lw_privs_3 ++ (lw_privs_4 ++ (lw_privs_5 ++ (lw_privs_6))))), lw_okq q
  exact List.forall_mem_append.mpr ⟨lw_r1, List.forall_mem_append.mpr ⟨lw_r2, List.forall_mem_append.mpr ⟨lw_r3, List.forall_mem_append.mpr ⟨lw_r4, List.forall_mem_append.mpr ⟨lw_r5, lw_r6⟩⟩⟩⟩⟩
-- ===== end of PART A; then your names; then what follows =====
noncomputable def RX0 : String := "OneEarOfTwo$Acts"
noncomputable def TX0 : u_T := fun k => match k with
  | 0 => ("OneEarOfTwo$Acts", "kinds", "[I", true)
  | 1 => ("OneEarOfTwo$Acts", "bodies", "I", false)
  | 2 => ("OneEarOfTwo$Acts", "trail", "[I", true)
  | 3 => ("OneEarOfTwo$Acts", "ran", "I", false)
  | 4 => ("OneEarOfTwo$Acts", "n", "I", false)
  | _ => ("OneEarOfTwo$Acts", "kind", "I", false)
noncomputable def tyX0 : Nat → FieldType := fun k => match k with
  | 0 => .array .int
  | 1 => .int
  | 2 => .array .int
  | 3 => .int
  | 4 => .int
  | _ => .int
noncomputable abbrev wsX00 : List Cond := u_ws RX0 TX0 6
theorem nmX0 : ∀ a, a < 6 → ∀ b, b < 6 → a ≠ b → (TX0 a).2.1 ≠ (TX0 b).2.1 := by decide +kernel
theorem tyX0_ok : ∀ k, k < 6 → parseFieldDescriptor (TX0 k).2.2.1 = some (tyX0 k) := by decide +kernel
noncomputable abbrev cX0_init : ByteArray := prog_2_method_1_code
noncomputable def yX0_init : MethodName := ⟨RX0, "<init>", "()V"⟩
noncomputable abbrev cX0_isKind : ByteArray := prog_2_method_2_code
noncomputable def yX0_isKind : MethodName := ⟨RX0, "isKind", "(I)Z"⟩
noncomputable abbrev cX0_isUnder : ByteArray := prog_2_method_3_code
noncomputable def yX0_isUnder : MethodName := ⟨RX0, "isUnder", "(II)Z"⟩
noncomputable abbrev cX0_has : ByteArray := prog_2_method_4_code
noncomputable def yX0_has : MethodName := ⟨RX0, "has", "(I)Z"⟩
noncomputable abbrev cX0_kindOf : ByteArray := prog_2_method_5_code
noncomputable def yX0_kindOf : MethodName := ⟨RX0, "kindOf", "(I)I"⟩
noncomputable abbrev cX0_addBody : ByteArray := prog_2_method_6_code
noncomputable def yX0_addBody : MethodName := ⟨RX0, "addBody", "(I)I"⟩
noncomputable abbrev cX0_traced : ByteArray := prog_2_method_7_code
noncomputable def yX0_traced : MethodName := ⟨RX0, "traced", "(I)I"⟩
noncomputable abbrev cX0_start : ByteArray := prog_2_method_8_code
noncomputable def yX0_start : MethodName := ⟨RX0, "start", "(III)I"⟩
noncomputable abbrev cX0_own : ByteArray := prog_2_method_9_code
noncomputable def yX0_own : MethodName := ⟨RX0, "own", "(III)I"⟩
noncomputable abbrev cX0_actFrom : ByteArray := prog_2_method_10_code
noncomputable def yX0_actFrom : MethodName := ⟨RX0, "actFrom", "(IIII)I"⟩
noncomputable abbrev cX0_begin : ByteArray := prog_2_method_11_code
noncomputable def yX0_begin : MethodName := ⟨RX0, "begin", "(I)V"⟩
noncomputable abbrev cX0_actOfBeep : ByteArray := prog_2_method_12_code
noncomputable def yX0_actOfBeep : MethodName := ⟨RX0, "actOfBeep", "(III)I"⟩
noncomputable abbrev cX0_actOverAbove : ByteArray := prog_2_method_13_code
noncomputable def yX0_actOverAbove : MethodName := ⟨RX0, "actOverAbove", "(IIII)I"⟩
noncomputable def RX1 : String := "OneEarOfTwo$Changes"
noncomputable def TX1 : u_T := fun k => match k with
  | 0 => ("OneEarOfTwo$Changes", "yard", "LOneEarOfTwo$Yard;", true)
  | 1 => ("OneEarOfTwo$Changes", "numbers", "[I", true)
  | 2 => ("OneEarOfTwo$Changes", "whats", "[I", true)
  | 3 => ("OneEarOfTwo$Changes", "before", "[I", true)
  | 4 => ("OneEarOfTwo$Changes", "after", "[I", true)
  | 5 => ("OneEarOfTwo$Changes", "done", "I", false)
  | _ => ("OneEarOfTwo$Changes", "kept", "I", false)
noncomputable def tyX1 : Nat → FieldType := fun k => match k with
  | 0 => .object "OneEarOfTwo$Yard"
  | 1 => .array .int
  | 2 => .array .int
  | 3 => .array .int
  | 4 => .array .int
  | 5 => .int
  | _ => .int
noncomputable abbrev wsX10 : List Cond := u_ws RX1 TX1 7
theorem nmX1 : ∀ a, a < 7 → ∀ b, b < 7 → a ≠ b → (TX1 a).2.1 ≠ (TX1 b).2.1 := by decide +kernel
theorem tyX1_ok : ∀ k, k < 7 → parseFieldDescriptor (TX1 k).2.2.1 = some (tyX1 k) := by decide +kernel
noncomputable abbrev cX1_init : ByteArray := prog_3_method_1_code
noncomputable def yX1_init : MethodName := ⟨RX1, "<init>", "(LOneEarOfTwo$Yard;)V"⟩
noncomputable abbrev cX1_add : ByteArray := prog_3_method_2_code
noncomputable def yX1_add : MethodName := ⟨RX1, "add", "(IIII)V"⟩
noncomputable abbrev cX1_forgetOldest : ByteArray := prog_3_method_3_code
noncomputable def yX1_forgetOldest : MethodName := ⟨RX1, "forgetOldest", "()V"⟩
noncomputable abbrev cX1_takeBack : ByteArray := prog_3_method_4_code
noncomputable def yX1_takeBack : MethodName := ⟨RX1, "takeBack", "()Z"⟩
noncomputable abbrev cX1_doAgain : ByteArray := prog_3_method_5_code
noncomputable def yX1_doAgain : MethodName := ⟨RX1, "doAgain", "()Z"⟩
noncomputable def RX2 : String := "OneEarOfTwo$Deeds"
noncomputable def TX2 : u_T := fun k => match k with
  | 0 => ("OneEarOfTwo$Deeds", "yard", "LOneEarOfTwo$Yard;", true)
  | 1 => ("OneEarOfTwo$Deeds", "shares", "[I", true)
  | 2 => ("OneEarOfTwo$Deeds", "listened", "[I", true)
  | 3 => ("OneEarOfTwo$Deeds", "now", "I", false)
  | 4 => ("OneEarOfTwo$Deeds", "at", "I", false)
  | 5 => ("OneEarOfTwo$Deeds", "goings", "I", false)
  | 6 => ("OneEarOfTwo$Deeds", "minutes", "I", false)
  | 7 => ("OneEarOfTwo$Deeds", "found", "I", false)
  | _ => ("OneEarOfTwo$Deeds", "finds", "I", false)
noncomputable def tyX2 : Nat → FieldType := fun k => match k with
  | 0 => .object "OneEarOfTwo$Yard"
  | 1 => .array .int
  | 2 => .array .int
  | 3 => .int
  | 4 => .int
  | 5 => .int
  | 6 => .int
  | 7 => .int
  | _ => .int
noncomputable abbrev wsX20 : List Cond := u_ws RX2 TX2 9
theorem nmX2 : ∀ a, a < 9 → ∀ b, b < 9 → a ≠ b → (TX2 a).2.1 ≠ (TX2 b).2.1 := by decide +kernel
theorem tyX2_ok : ∀ k, k < 9 → parseFieldDescriptor (TX2 k).2.2.1 = some (tyX2 k) := by decide +kernel
noncomputable abbrev cX2_init : ByteArray := prog_4_method_1_code
noncomputable def yX2_init : MethodName := ⟨RX2, "<init>", "(LOneEarOfTwo$Yard;)V"⟩
noncomputable abbrev cX2_goTo : ByteArray := prog_4_method_2_code
noncomputable def yX2_goTo : MethodName := ⟨RX2, "goTo", "(II)V"⟩
noncomputable abbrev cX2_listenFor : ByteArray := prog_4_method_3_code
noncomputable def yX2_listenFor : MethodName := ⟨RX2, "listenFor", "(I)I"⟩
noncomputable abbrev cX2_findIn : ByteArray := prog_4_method_4_code
noncomputable def yX2_findIn : MethodName := ⟨RX2, "findIn", "(I)I"⟩
noncomputable abbrev cX2_beginAnew : ByteArray := prog_4_method_5_code
noncomputable def yX2_beginAnew : MethodName := ⟨RX2, "beginAnew", "()I"⟩
noncomputable abbrev cX2_copyFrom : ByteArray := prog_4_method_6_code
noncomputable def yX2_copyFrom : MethodName := ⟨RX2, "copyFrom", "(LOneEarOfTwo$Deeds;)V"⟩
noncomputable def RX3 : String := "OneEarOfTwo$Law"
noncomputable def TX3 : u_T := fun k => match k with
  | 0 => ("OneEarOfTwo$Law", "tape", "[I", true)
  | 1 => ("OneEarOfTwo$Law", "fed", "I", false)
  | 2 => ("OneEarOfTwo$Law", "at", "I", false)
  | 3 => ("OneEarOfTwo$Law", "signs", "[I", false)
  | 4 => ("OneEarOfTwo$Law", "values", "[I", false)
  | 5 => ("OneEarOfTwo$Law", "codes", "I", false)
  | 6 => ("OneEarOfTwo$Law", "draftSigns", "[I", false)
  | 7 => ("OneEarOfTwo$Law", "draftValues", "[I", false)
  | 8 => ("OneEarOfTwo$Law", "drafted", "I", false)
  | 9 => ("OneEarOfTwo$Law", "stack", "[I", true)
  | 10 => ("OneEarOfTwo$Law", "top", "I", false)
  | 11 => ("OneEarOfTwo$Law", "h", "I", false)
  | 12 => ("OneEarOfTwo$Law", "d", "I", false)
  | 13 => ("OneEarOfTwo$Law", "k", "I", false)
  | 14 => ("OneEarOfTwo$Law", "m", "I", false)
  | 15 => ("OneEarOfTwo$Law", "c", "I", false)
  | _ => ("OneEarOfTwo$Law", "p", "I", false)
noncomputable def tyX3 : Nat → FieldType := fun k => match k with
  | 0 => .array .int
  | 1 => .int
  | 2 => .int
  | 3 => .array .int
  | 4 => .array .int
  | 5 => .int
  | 6 => .array .int
  | 7 => .array .int
  | 8 => .int
  | 9 => .array .int
  | 10 => .int
  | 11 => .int
  | 12 => .int
  | 13 => .int
  | 14 => .int
  | 15 => .int
  | _ => .int
noncomputable abbrev wsX30 : List Cond := u_ws RX3 TX3 17
theorem nmX3 : ∀ a, a < 17 → ∀ b, b < 17 → a ≠ b → (TX3 a).2.1 ≠ (TX3 b).2.1 := by decide +kernel
theorem tyX3_ok : ∀ k, k < 17 → parseFieldDescriptor (TX3 k).2.2.1 = some (tyX3 k) := by decide +kernel
noncomputable abbrev cX3_init : ByteArray := prog_5_method_1_code
noncomputable def yX3_init : MethodName := ⟨RX3, "<init>", "()V"⟩
noncomputable abbrev cX3_takeByte : ByteArray := prog_5_method_2_code
noncomputable def yX3_takeByte : MethodName := ⟨RX3, "takeByte", "(I)Z"⟩
noncomputable abbrev cX3_takeTape : ByteArray := prog_5_method_3_code
noncomputable def yX3_takeTape : MethodName := ⟨RX3, "takeTape", "()I"⟩
noncomputable abbrev cX3_becomeLaw : ByteArray := prog_5_method_4_code
noncomputable def yX3_becomeLaw : MethodName := ⟨RX3, "becomeLaw", "()V"⟩
noncomputable abbrev cX3_readText : ByteArray := prog_5_method_5_code
noncomputable def yX3_readText : MethodName := ⟨RX3, "readText", "()Z"⟩
noncomputable abbrev cX3_readLine : ByteArray := prog_5_method_6_code
noncomputable def yX3_readLine : MethodName := ⟨RX3, "readLine", "()Z"⟩
noncomputable abbrev cX3_readChain : ByteArray := prog_5_method_7_code
noncomputable def yX3_readChain : MethodName := ⟨RX3, "readChain", "(II)Z"⟩
noncomputable abbrev cX3_readOperand : ByteArray := prog_5_method_8_code
noncomputable def yX3_readOperand : MethodName := ⟨RX3, "readOperand", "(I)Z"⟩
noncomputable abbrev cX3_readNumber : ByteArray := prog_5_method_9_code
noncomputable def yX3_readNumber : MethodName := ⟨RX3, "readNumber", "()V"⟩
noncomputable abbrev cX3_here : ByteArray := prog_5_method_10_code
noncomputable def yX3_here : MethodName := ⟨RX3, "here", "()I"⟩
noncomputable abbrev cX3_addCode : ByteArray := prog_5_method_11_code
noncomputable def yX3_addCode : MethodName := ⟨RX3, "addCode", "(II)V"⟩
noncomputable abbrev cX3_isDigit : ByteArray := prog_5_method_12_code
noncomputable def yX3_isDigit : MethodName := ⟨RX3, "isDigit", "(I)Z"⟩
noncomputable abbrev cX3_isName : ByteArray := prog_5_method_13_code
noncomputable def yX3_isName : MethodName := ⟨RX3, "isName", "(I)Z"⟩
noncomputable abbrev cX3_rankOf : ByteArray := prog_5_method_14_code
noncomputable def yX3_rankOf : MethodName := ⟨RX3, "rankOf", "(I)I"⟩
noncomputable abbrev cX3_work : ByteArray := prog_5_method_15_code
noncomputable def yX3_work : MethodName := ⟨RX3, "work", "(IIIIII)I"⟩
noncomputable abbrev cX3_withoutText : ByteArray := prog_5_method_16_code
noncomputable def yX3_withoutText : MethodName := ⟨RX3, "withoutText", "(III)I"⟩
noncomputable abbrev cX3_runCode : ByteArray := prog_5_method_17_code
noncomputable def yX3_runCode : MethodName := ⟨RX3, "runCode", "(II)V"⟩
noncomputable abbrev cX3_joined : ByteArray := prog_5_method_18_code
noncomputable def yX3_joined : MethodName := ⟨RX3, "joined", "(III)I"⟩
noncomputable abbrev cX3_push : ByteArray := prog_5_method_19_code
noncomputable def yX3_push : MethodName := ⟨RX3, "push", "(I)V"⟩
noncomputable abbrev cX3_pop : ByteArray := prog_5_method_20_code
noncomputable def yX3_pop : MethodName := ⟨RX3, "pop", "()I"⟩
noncomputable def RX4 : String := "OneEarOfTwo$Losses"
noncomputable def TX4 : u_T := fun k => match k with
  | 0 => ("OneEarOfTwo$Losses", "yard", "LOneEarOfTwo$Yard;", true)
  | 1 => ("OneEarOfTwo$Losses", "trip", "LOneEarOfTwo$Trip;", true)
  | 2 => ("OneEarOfTwo$Losses", "z", "I", false)
  | 3 => ("OneEarOfTwo$Losses", "found", "I", false)
  | _ => ("OneEarOfTwo$Losses", "minutes", "I", false)
noncomputable def tyX4 : Nat → FieldType := fun k => match k with
  | 0 => .object "OneEarOfTwo$Yard"
  | 1 => .object "OneEarOfTwo$Trip"
  | 2 => .int
  | 3 => .int
  | _ => .int
noncomputable abbrev wsX40 : List Cond := u_ws RX4 TX4 5
theorem nmX4 : ∀ a, a < 5 → ∀ b, b < 5 → a ≠ b → (TX4 a).2.1 ≠ (TX4 b).2.1 := by decide +kernel
theorem tyX4_ok : ∀ k, k < 5 → parseFieldDescriptor (TX4 k).2.2.1 = some (tyX4 k) := by decide +kernel
noncomputable abbrev cX4_init : ByteArray := prog_6_method_1_code
noncomputable def yX4_init : MethodName := ⟨RX4, "<init>", "(LOneEarOfTwo$Yard;LOneEarOfTwo$Trip;)V"⟩
noncomputable abbrev cX4_drawAll : ByteArray := prog_6_method_2_code
noncomputable def yX4_drawAll : MethodName := ⟨RX4, "drawAll", "(II)V"⟩
noncomputable abbrev cX4_drawOn : ByteArray := prog_6_method_3_code
noncomputable def yX4_drawOn : MethodName := ⟨RX4, "drawOn", "()V"⟩
noncomputable abbrev cX4_drawPlace : ByteArray := prog_6_method_4_code
noncomputable def yX4_drawPlace : MethodName := ⟨RX4, "drawPlace", "()I"⟩
noncomputable abbrev cX4_seek : ByteArray := prog_6_method_5_code
noncomputable def yX4_seek : MethodName := ⟨RX4, "seek", "(I)V"⟩
noncomputable abbrev cX4_listenThrough : ByteArray := prog_6_method_6_code
noncomputable def yX4_listenThrough : MethodName := ⟨RX4, "listenThrough", "(I)Z"⟩
noncomputable def RX5 : String := "OneEarOfTwo$Orders"
noncomputable def TX5 : u_T := fun k => match k with
  | 0 => ("OneEarOfTwo$Orders", "yard", "LOneEarOfTwo$Yard;", true)
  | 1 => ("OneEarOfTwo$Orders", "order", "[I", true)
  | 2 => ("OneEarOfTwo$Orders", "bestOrder", "[I", true)
  | 3 => ("OneEarOfTwo$Orders", "minutesEach", "I", false)
  | _ => ("OneEarOfTwo$Orders", "mostFound", "I", false)
noncomputable def tyX5 : Nat → FieldType := fun k => match k with
  | 0 => .object "OneEarOfTwo$Yard"
  | 1 => .array .int
  | 2 => .array .int
  | 3 => .int
  | _ => .int
noncomputable abbrev wsX50 : List Cond := u_ws RX5 TX5 5
theorem nmX5 : ∀ a, a < 5 → ∀ b, b < 5 → a ≠ b → (TX5 a).2.1 ≠ (TX5 b).2.1 := by decide +kernel
theorem tyX5_ok : ∀ k, k < 5 → parseFieldDescriptor (TX5 k).2.2.1 = some (tyX5 k) := by decide +kernel
noncomputable abbrev cX5_init : ByteArray := prog_7_method_1_code
noncomputable def yX5_init : MethodName := ⟨RX5, "<init>", "(LOneEarOfTwo$Yard;)V"⟩
noncomputable abbrev cX5_search : ByteArray := prog_7_method_2_code
noncomputable def yX5_search : MethodName := ⟨RX5, "search", "(II)V"⟩
noncomputable abbrev cX5_placeAt : ByteArray := prog_7_method_3_code
noncomputable def yX5_placeAt : MethodName := ⟨RX5, "placeAt", "(I)I"⟩
noncomputable abbrev cX5_tryFrom : ByteArray := prog_7_method_4_code
noncomputable def yX5_tryFrom : MethodName := ⟨RX5, "tryFrom", "(IIIII)V"⟩
noncomputable abbrev cX5_keepIfBetter : ByteArray := prog_7_method_5_code
noncomputable def yX5_keepIfBetter : MethodName := ⟨RX5, "keepIfBetter", "(I)V"⟩
noncomputable def RX6 : String := "OneEarOfTwo$Purse"
noncomputable def TX6 : u_T := fun k => match k with
  | 0 => ("OneEarOfTwo$Purse", "yard", "LOneEarOfTwo$Yard;", true)
  | 1 => ("OneEarOfTwo$Purse", "cost", "J", false)
  | _ => ("OneEarOfTwo$Purse", "choice", "I", false)
noncomputable def tyX6 : Nat → FieldType := fun k => match k with
  | 0 => .object "OneEarOfTwo$Yard"
  | 1 => .long
  | _ => .int
noncomputable abbrev wsX60 : List Cond := u_ws RX6 TX6 3
theorem nmX6 : ∀ a, a < 3 → ∀ b, b < 3 → a ≠ b → (TX6 a).2.1 ≠ (TX6 b).2.1 := by decide +kernel
theorem tyX6_ok : ∀ k, k < 3 → parseFieldDescriptor (TX6 k).2.2.1 = some (tyX6 k) := by decide +kernel
noncomputable abbrev cX6_init : ByteArray := prog_8_method_1_code
noncomputable def yX6_init : MethodName := ⟨RX6, "<init>", "(LOneEarOfTwo$Yard;)V"⟩
noncomputable abbrev cX6_plan : ByteArray := prog_8_method_2_code
noncomputable def yX6_plan : MethodName := ⟨RX6, "plan", "(II)V"⟩
noncomputable abbrev cX6_chooseLeast : ByteArray := prog_8_method_3_code
noncomputable def yX6_chooseLeast : MethodName := ⟨RX6, "chooseLeast", "(JJJ)V"⟩
noncomputable abbrev cX6_greatestUneven : ByteArray := prog_8_method_4_code
noncomputable def yX6_greatestUneven : MethodName := ⟨RX6, "greatestUneven", "(I)I"⟩
noncomputable abbrev cX6_isGoingOnBest : ByteArray := prog_8_method_5_code
noncomputable def yX6_isGoingOnBest : MethodName := ⟨RX6, "isGoingOnBest", "(II)Z"⟩
noncomputable def RX7 : String := "OneEarOfTwo$Shelf"
noncomputable def TX7 : u_T := fun k => match k with
  | 0 => ("OneEarOfTwo$Shelf", "held", "I", false)
  | 1 => ("OneEarOfTwo$Shelf", "body", "I", false)
  | 2 => ("OneEarOfTwo$Shelf", "sort", "I", false)
  | 3 => ("OneEarOfTwo$Shelf", "size", "I", false)
  | _ => ("OneEarOfTwo$Shelf", "cells", "[J", true)
noncomputable def tyX7 : Nat → FieldType := fun k => match k with
  | 0 => .int
  | 1 => .int
  | 2 => .int
  | 3 => .int
  | _ => .array .long
noncomputable abbrev wsX70 : List Cond := u_ws RX7 TX7 5
theorem nmX7 : ∀ a, a < 5 → ∀ b, b < 5 → a ≠ b → (TX7 a).2.1 ≠ (TX7 b).2.1 := by decide +kernel
theorem tyX7_ok : ∀ k, k < 5 → parseFieldDescriptor (TX7 k).2.2.1 = some (tyX7 k) := by decide +kernel
noncomputable abbrev cX7_init : ByteArray := prog_9_method_1_code
noncomputable def yX7_init : MethodName := ⟨RX7, "<init>", "()V"⟩
noncomputable abbrev cX7_isSort : ByteArray := prog_9_method_2_code
noncomputable def yX7_isSort : MethodName := ⟨RX7, "isSort", "(I)Z"⟩
noncomputable abbrev cX7_holdsNothing : ByteArray := prog_9_method_3_code
noncomputable def yX7_holdsNothing : MethodName := ⟨RX7, "holdsNothing", "()Z"⟩
noncomputable abbrev cX7_holdsBody : ByteArray := prog_9_method_4_code
noncomputable def yX7_holdsBody : MethodName := ⟨RX7, "holdsBody", "()Z"⟩
noncomputable abbrev cX7_holdsBytes : ByteArray := prog_9_method_5_code
noncomputable def yX7_holdsBytes : MethodName := ⟨RX7, "holdsBytes", "()Z"⟩
noncomputable abbrev cX7_isRowLike : ByteArray := prog_9_method_6_code
noncomputable def yX7_isRowLike : MethodName := ⟨RX7, "isRowLike", "(LOneEarOfTwo$Shelf;)Z"⟩
noncomputable abbrev cX7_clear : ByteArray := prog_9_method_7_code
noncomputable def yX7_clear : MethodName := ⟨RX7, "clear", "()V"⟩
noncomputable abbrev cX7_holdBody : ByteArray := prog_9_method_8_code
noncomputable def yX7_holdBody : MethodName := ⟨RX7, "holdBody", "(I)V"⟩
noncomputable abbrev cX7_holdRow : ByteArray := prog_9_method_9_code
noncomputable def yX7_holdRow : MethodName := ⟨RX7, "holdRow", "(II)V"⟩
noncomputable abbrev cX7_bytesRefusal : ByteArray := prog_9_method_10_code
noncomputable def yX7_bytesRefusal : MethodName := ⟨RX7, "bytesRefusal", "()I"⟩
noncomputable abbrev cX7_refusalOf : ByteArray := prog_9_method_11_code
noncomputable def yX7_refusalOf : MethodName := ⟨RX7, "refusalOf", "(I)I"⟩
noncomputable abbrev cX7_spans : ByteArray := prog_9_method_12_code
noncomputable def yX7_spans : MethodName := ⟨RX7, "spans", "(II)Z"⟩
noncomputable abbrev cX7_cell : ByteArray := prog_9_method_13_code
noncomputable def yX7_cell : MethodName := ⟨RX7, "cell", "(I)J"⟩
noncomputable abbrev cX7_setCell : ByteArray := prog_9_method_14_code
noncomputable def yX7_setCell : MethodName := ⟨RX7, "setCell", "(IJ)V"⟩
noncomputable abbrev cX7_lowestBits : ByteArray := prog_9_method_15_code
noncomputable def yX7_lowestBits : MethodName := ⟨RX7, "lowestBits", "(J)J"⟩
noncomputable abbrev cX7_cellsWith : ByteArray := prog_9_method_16_code
noncomputable def yX7_cellsWith : MethodName := ⟨RX7, "cellsWith", "(J)I"⟩
noncomputable def RX8 : String := "OneEarOfTwo$Trip"
noncomputable def TX8 : u_T := fun k => match k with
  | 0 => ("OneEarOfTwo$Trip", "yard", "LOneEarOfTwo$Yard;", true)
  | 1 => ("OneEarOfTwo$Trip", "shares", "[I", true)
  | 2 => ("OneEarOfTwo$Trip", "listened", "[I", true)
  | 3 => ("OneEarOfTwo$Trip", "stops", "[I", true)
  | 4 => ("OneEarOfTwo$Trip", "starts", "[I", true)
  | 5 => ("OneEarOfTwo$Trip", "lengths", "[I", true)
  | 6 => ("OneEarOfTwo$Trip", "ahead", "[I", true)
  | 7 => ("OneEarOfTwo$Trip", "foundBehind", "[I", true)
  | 8 => ("OneEarOfTwo$Trip", "twos", "I", false)
  | 9 => ("OneEarOfTwo$Trip", "found", "I", false)
  | 10 => ("OneEarOfTwo$Trip", "minute", "I", false)
  | 11 => ("OneEarOfTwo$Trip", "at", "I", false)
  | 12 => ("OneEarOfTwo$Trip", "mark", "I", false)
  | _ => ("OneEarOfTwo$Trip", "markedAt", "I", false)
noncomputable def tyX8 : Nat → FieldType := fun k => match k with
  | 0 => .object "OneEarOfTwo$Yard"
  | 1 => .array .int
  | 2 => .array .int
  | 3 => .array .int
  | 4 => .array .int
  | 5 => .array .int
  | 6 => .array .int
  | 7 => .array .int
  | 8 => .int
  | 9 => .int
  | 10 => .int
  | 11 => .int
  | 12 => .int
  | _ => .int
noncomputable abbrev wsX80 : List Cond := u_ws RX8 TX8 14
theorem nmX8 : ∀ a, a < 14 → ∀ b, b < 14 → a ≠ b → (TX8 a).2.1 ≠ (TX8 b).2.1 := by decide +kernel
theorem tyX8_ok : ∀ k, k < 14 → parseFieldDescriptor (TX8 k).2.2.1 = some (tyX8 k) := by decide +kernel
noncomputable abbrev cX8_init : ByteArray := prog_10_method_1_code
noncomputable def yX8_init : MethodName := ⟨RX8, "<init>", "(LOneEarOfTwo$Yard;)V"⟩
noncomputable abbrev cX8_markFound : ByteArray := prog_10_method_2_code
noncomputable def yX8_markFound : MethodName := ⟨RX8, "markFound", "(I)V"⟩
noncomputable abbrev cX8_follow : ByteArray := prog_10_method_3_code
noncomputable def yX8_follow : MethodName := ⟨RX8, "follow", "(LOneEarOfTwo$Shelf;)I"⟩
noncomputable abbrev cX8_begin : ByteArray := prog_10_method_4_code
noncomputable def yX8_begin : MethodName := ⟨RX8, "begin", "()V"⟩
noncomputable abbrev cX8_goOnTo : ByteArray := prog_10_method_5_code
noncomputable def yX8_goOnTo : MethodName := ⟨RX8, "goOnTo", "(II)Z"⟩
noncomputable abbrev cX8_likeliest : ByteArray := prog_10_method_6_code
noncomputable def yX8_likeliest : MethodName := ⟨RX8, "likeliest", "()I"⟩
noncomputable abbrev cX8_allLeft : ByteArray := prog_10_method_7_code
noncomputable def yX8_allLeft : MethodName := ⟨RX8, "allLeft", "()I"⟩
noncomputable abbrev cX8_growthByMinutes : ByteArray := prog_10_method_8_code
noncomputable def yX8_growthByMinutes : MethodName := ⟨RX8, "growthByMinutes", "(II)I"⟩
noncomputable abbrev cX8_minutesWorth : ByteArray := prog_10_method_9_code
noncomputable def yX8_minutesWorth : MethodName := ⟨RX8, "minutesWorth", "(I)I"⟩
noncomputable def RX9 : String := "OneEarOfTwo$Yard"
noncomputable def TX9 : u_T := fun k => match k with
  | 0 => ("OneEarOfTwo$Yard", "text", "LOneEarOfTwo$Law;", true)
  | 1 => ("OneEarOfTwo$Yard", "numbers", "[I", true)
  | _ => ("OneEarOfTwo$Yard", "size", "I", false)
noncomputable def tyX9 : Nat → FieldType := fun k => match k with
  | 0 => .object "OneEarOfTwo$Law"
  | 1 => .array .int
  | _ => .int
noncomputable abbrev wsX90 : List Cond := u_ws RX9 TX9 3
theorem nmX9 : ∀ a, a < 3 → ∀ b, b < 3 → a ≠ b → (TX9 a).2.1 ≠ (TX9 b).2.1 := by decide +kernel
theorem tyX9_ok : ∀ k, k < 3 → parseFieldDescriptor (TX9 k).2.2.1 = some (tyX9 k) := by decide +kernel
noncomputable abbrev cX9_init : ByteArray := prog_11_method_1_code
noncomputable def yX9_init : MethodName := ⟨RX9, "<init>", "(LOneEarOfTwo$Law;)V"⟩
noncomputable abbrev cX9_isFit : ByteArray := prog_11_method_2_code
noncomputable def yX9_isFit : MethodName := ⟨RX9, "isFit", "(II)Z"⟩
noncomputable abbrev cX9_has : ByteArray := prog_11_method_3_code
noncomputable def yX9_has : MethodName := ⟨RX9, "has", "(I)Z"⟩
noncomputable abbrev cX9_isNumber : ByteArray := prog_11_method_4_code
noncomputable def yX9_isNumber : MethodName := ⟨RX9, "isNumber", "(II)Z"⟩
noncomputable abbrev cX9_slot : ByteArray := prog_11_method_5_code
noncomputable def yX9_slot : MethodName := ⟨RX9, "slot", "(II)I"⟩
noncomputable abbrev cX9_told : ByteArray := prog_11_method_6_code
noncomputable def yX9_told : MethodName := ⟨RX9, "told", "(II)I"⟩
noncomputable abbrev cX9_tell : ByteArray := prog_11_method_7_code
noncomputable def yX9_tell : MethodName := ⟨RX9, "tell", "(III)V"⟩
noncomputable abbrev cX9_addPlace : ByteArray := prog_11_method_8_code
noncomputable def yX9_addPlace : MethodName := ⟨RX9, "addPlace", "(III)I"⟩
noncomputable abbrev cX9_yardsFrom : ByteArray := prog_11_method_9_code
noncomputable def yX9_yardsFrom : MethodName := ⟨RX9, "yardsFrom", "(III)I"⟩
noncomputable abbrev cX9_wayBetween : ByteArray := prog_11_method_10_code
noncomputable def yX9_wayBetween : MethodName := ⟨RX9, "wayBetween", "(II)I"⟩
noncomputable abbrev cX9_allOdds : ByteArray := prog_11_method_11_code
noncomputable def yX9_allOdds : MethodName := ⟨RX9, "allOdds", "()I"⟩
noncomputable abbrev cX9_shareByOdds : ByteArray := prog_11_method_12_code
noncomputable def yX9_shareByOdds : MethodName := ⟨RX9, "shareByOdds", "(I)I"⟩
noncomputable abbrev cX9_shareOfGone : ByteArray := prog_11_method_13_code
noncomputable def yX9_shareOfGone : MethodName := ⟨RX9, "shareOfGone", "()I"⟩
noncomputable abbrev cX9_twelfths : ByteArray := prog_11_method_14_code
noncomputable def yX9_twelfths : MethodName := ⟨RX9, "twelfths", "(III)I"⟩
noncomputable abbrev cX9_leftBehind : ByteArray := prog_11_method_15_code
noncomputable def yX9_leftBehind : MethodName := ⟨RX9, "leftBehind", "(IIIII)I"⟩
noncomputable def RX10 : String := "OneEarOfTwo"
noncomputable def TX10 : u_T := fun k => match k with
  | 0 => ("OneEarOfTwo", "text", "LOneEarOfTwo$Law;", true)
  | 1 => ("OneEarOfTwo", "yard", "LOneEarOfTwo$Yard;", true)
  | 2 => ("OneEarOfTwo", "trip", "LOneEarOfTwo$Trip;", true)
  | 3 => ("OneEarOfTwo", "orders", "LOneEarOfTwo$Orders;", true)
  | 4 => ("OneEarOfTwo", "losses", "LOneEarOfTwo$Losses;", true)
  | 5 => ("OneEarOfTwo", "purse", "LOneEarOfTwo$Purse;", true)
  | 6 => ("OneEarOfTwo", "deeds", "LOneEarOfTwo$Deeds;", true)
  | 7 => ("OneEarOfTwo", "picture", "LOneEarOfTwo$Deeds;", true)
  | 8 => ("OneEarOfTwo", "pictured", "Z", false)
  | 9 => ("OneEarOfTwo", "changes", "LOneEarOfTwo$Changes;", true)
  | 10 => ("OneEarOfTwo", "acts", "LOneEarOfTwo$Acts;", true)
  | _ => ("OneEarOfTwo", "shelves", "[LOneEarOfTwo$Shelf;", true)
noncomputable def tyX10 : Nat → FieldType := fun k => match k with
  | 0 => .object "OneEarOfTwo$Law"
  | 1 => .object "OneEarOfTwo$Yard"
  | 2 => .object "OneEarOfTwo$Trip"
  | 3 => .object "OneEarOfTwo$Orders"
  | 4 => .object "OneEarOfTwo$Losses"
  | 5 => .object "OneEarOfTwo$Purse"
  | 6 => .object "OneEarOfTwo$Deeds"
  | 7 => .object "OneEarOfTwo$Deeds"
  | 8 => .boolean
  | 9 => .object "OneEarOfTwo$Changes"
  | 10 => .object "OneEarOfTwo$Acts"
  | _ => .array (.object "OneEarOfTwo$Shelf")
noncomputable abbrev wsX100 : List Cond := u_ws RX10 TX10 12
theorem nmX10 : ∀ a, a < 12 → ∀ b, b < 12 → a ≠ b → (TX10 a).2.1 ≠ (TX10 b).2.1 := by decide +kernel
theorem tyX10_ok : ∀ k, k < 12 → parseFieldDescriptor (TX10 k).2.2.1 = some (tyX10 k) := by decide +kernel
noncomputable abbrev cX10_init : ByteArray := prog_1_method_1_code
noncomputable def yX10_init : MethodName := ⟨RX10, "<init>", "()V"⟩
noncomputable abbrev cX10_place : ByteArray := prog_1_method_2_code
noncomputable def yX10_place : MethodName := ⟨RX10, "place", "(II)I"⟩
noncomputable abbrev cX10_places : ByteArray := prog_1_method_3_code
noncomputable def yX10_places : MethodName := ⟨RX10, "places", "(III)I"⟩
noncomputable abbrev cX10_addThree : ByteArray := prog_1_method_4_code
noncomputable def yX10_addThree : MethodName := ⟨RX10, "addThree", "(LOneEarOfTwo$Shelf;J)Z"⟩
noncomputable abbrev cX10_mend : ByteArray := prog_1_method_5_code
noncomputable def yX10_mend : MethodName := ⟨RX10, "mend", "(III)I"⟩
noncomputable abbrev cX10_of : ByteArray := prog_1_method_6_code
noncomputable def yX10_of : MethodName := ⟨RX10, "of", "(II)I"⟩
noncomputable abbrev cX10_feed : ByteArray := prog_1_method_7_code
noncomputable def yX10_feed : MethodName := ⟨RX10, "feed", "(I)I"⟩
noncomputable abbrev cX10_law : ByteArray := prog_1_method_8_code
noncomputable def yX10_law : MethodName := ⟨RX10, "law", "()I"⟩
noncomputable abbrev cX10_hears : ByteArray := prog_1_method_9_code
noncomputable def yX10_hears : MethodName := ⟨RX10, "hears", "(II)I"⟩
noncomputable abbrev cX10_round : ByteArray := prog_1_method_10_code
noncomputable def yX10_round : MethodName := ⟨RX10, "round", "(II)I"⟩
noncomputable abbrev cX10_ifNot : ByteArray := prog_1_method_11_code
noncomputable def yX10_ifNot : MethodName := ⟨RX10, "ifNot", "(II)I"⟩
noncomputable abbrev cX10_by : ByteArray := prog_1_method_12_code
noncomputable def yX10_by : MethodName := ⟨RX10, "by", "(II)I"⟩
noncomputable abbrev cX10_next : ByteArray := prog_1_method_13_code
noncomputable def yX10_next : MethodName := ⟨RX10, "next", "(III)I"⟩
noncomputable abbrev cX10_stay : ByteArray := prog_1_method_14_code
noncomputable def yX10_stay : MethodName := ⟨RX10, "stay", "(II)I"⟩
noncomputable abbrev cX10_best : ByteArray := prog_1_method_15_code
noncomputable def yX10_best : MethodName := ⟨RX10, "best", "(III)I"⟩
noncomputable abbrev cX10_giveUp : ByteArray := prog_1_method_16_code
noncomputable def yX10_giveUp : MethodName := ⟨RX10, "giveUp", "(III)I"⟩
noncomputable abbrev cX10_seen : ByteArray := prog_1_method_17_code
noncomputable def yX10_seen : MethodName := ⟨RX10, "seen", "(II)I"⟩
noncomputable abbrev cX10_dead : ByteArray := prog_1_method_18_code
noncomputable def yX10_dead : MethodName := ⟨RX10, "dead", "(I)I"⟩
noncomputable abbrev cX10_buy : ByteArray := prog_1_method_19_code
noncomputable def yX10_buy : MethodName := ⟨RX10, "buy", "(II)I"⟩
noncomputable abbrev cX10_waits : ByteArray := prog_1_method_20_code
noncomputable def yX10_waits : MethodName := ⟨RX10, "waits", "(I)I"⟩
noncomputable abbrev cX10_strangers : ByteArray := prog_1_method_21_code
noncomputable def yX10_strangers : MethodName := ⟨RX10, "strangers", "(II)I"⟩
noncomputable abbrev cX10_worn : ByteArray := prog_1_method_22_code
noncomputable def yX10_worn : MethodName := ⟨RX10, "worn", "(I)I"⟩
noncomputable abbrev cX10_grass : ByteArray := prog_1_method_23_code
noncomputable def yX10_grass : MethodName := ⟨RX10, "grass", "(II)I"⟩
noncomputable abbrev cX10_drawn : ByteArray := prog_1_method_24_code
noncomputable def yX10_drawn : MethodName := ⟨RX10, "drawn", "(IIII)I"⟩
noncomputable abbrev cX10_go : ByteArray := prog_1_method_25_code
noncomputable def yX10_go : MethodName := ⟨RX10, "go", "(I)I"⟩
noncomputable abbrev cX10_listen : ByteArray := prog_1_method_26_code
noncomputable def yX10_listen : MethodName := ⟨RX10, "listen", "(I)I"⟩
noncomputable abbrev cX10_find : ByteArray := prog_1_method_27_code
noncomputable def yX10_find : MethodName := ⟨RX10, "find", "(I)I"⟩
noncomputable abbrev cX10_again : ByteArray := prog_1_method_28_code
noncomputable def yX10_again : MethodName := ⟨RX10, "again", "()I"⟩
noncomputable abbrev cX10_led : ByteArray := prog_1_method_29_code
noncomputable def yX10_led : MethodName := ⟨RX10, "led", "(I)I"⟩
noncomputable abbrev cX10_image : ByteArray := prog_1_method_30_code
noncomputable def yX10_image : MethodName := ⟨RX10, "image", "()I"⟩
noncomputable abbrev cX10_back : ByteArray := prog_1_method_31_code
noncomputable def yX10_back : MethodName := ⟨RX10, "back", "()I"⟩
noncomputable abbrev cX10_undo : ByteArray := prog_1_method_32_code
noncomputable def yX10_undo : MethodName := ⟨RX10, "undo", "()I"⟩
noncomputable abbrev cX10_redo : ByteArray := prog_1_method_33_code
noncomputable def yX10_redo : MethodName := ⟨RX10, "redo", "()I"⟩
noncomputable abbrev cX10_body : ByteArray := prog_1_method_34_code
noncomputable def yX10_body : MethodName := ⟨RX10, "body", "(I)I"⟩
noncomputable abbrev cX10_act : ByteArray := prog_1_method_35_code
noncomputable def yX10_act : MethodName := ⟨RX10, "act", "(III)I"⟩
noncomputable abbrev cX10_trace : ByteArray := prog_1_method_36_code
noncomputable def yX10_trace : MethodName := ⟨RX10, "trace", "(I)I"⟩
noncomputable abbrev cX10_keep : ByteArray := prog_1_method_37_code
noncomputable def yX10_keep : MethodName := ⟨RX10, "keep", "(II)I"⟩
noncomputable abbrev cX10_row : ByteArray := prog_1_method_38_code
noncomputable def yX10_row : MethodName := ⟨RX10, "row", "(III)I"⟩
noncomputable abbrev cX10_put : ByteArray := prog_1_method_39_code
noncomputable def yX10_put : MethodName := ⟨RX10, "put", "(IIJ)I"⟩
noncomputable abbrev cX10_element : ByteArray := prog_1_method_40_code
noncomputable def yX10_element : MethodName := ⟨RX10, "element", "(II)J"⟩
noncomputable abbrev cX10_shift : ByteArray := prog_1_method_41_code
noncomputable def yX10_shift : MethodName := ⟨RX10, "shift", "(IIIII)I"⟩
noncomputable abbrev cX10_taken : ByteArray := prog_1_method_42_code
noncomputable def yX10_taken : MethodName := ⟨RX10, "taken", "(II)I"⟩
noncomputable abbrev cX10_count : ByteArray := prog_1_method_43_code
noncomputable def yX10_count : MethodName := ⟨RX10, "count", "(I)I"⟩
noncomputable abbrev cX10_isShelf : ByteArray := prog_1_method_44_code
noncomputable def yX10_isShelf : MethodName := ⟨RX10, "isShelf", "(I)Z"⟩
noncomputable abbrev cX10_isSpot : ByteArray := prog_1_method_45_code
noncomputable def yX10_isSpot : MethodName := ⟨RX10, "isSpot", "(I)Z"⟩
noncomputable abbrev cX10_isMinutes : ByteArray := prog_1_method_46_code
noncomputable def yX10_isMinutes : MethodName := ⟨RX10, "isMinutes", "(I)Z"⟩
noncomputable abbrev cX10_isEither : ByteArray := prog_1_method_47_code
noncomputable def yX10_isEither : MethodName := ⟨RX10, "isEither", "(I)Z"⟩
noncomputable def RX11 : String := "OneEarOfTwoModel"
noncomputable def TX11 : u_T := fun k => match k with
  | 0 => ("OneEarOfTwoModel", "code", "I", false)
  | 1 => ("OneEarOfTwoModel", "places", "I", false)
  | 2 => ("OneEarOfTwoModel", "placeX", "[I", true)
  | 3 => ("OneEarOfTwoModel", "placeY", "[I", true)
  | 4 => ("OneEarOfTwoModel", "odds", "[I", true)
  | 5 => ("OneEarOfTwoModel", "hush", "[I", true)
  | 6 => ("OneEarOfTwoModel", "deep", "[I", true)
  | 7 => ("OneEarOfTwoModel", "told", "[I", true)
  | 8 => ("OneEarOfTwoModel", "doneMany", "I", false)
  | 9 => ("OneEarOfTwoModel", "undoneMany", "I", false)
  | 10 => ("OneEarOfTwoModel", "changeOf", "[I", true)
  | 11 => ("OneEarOfTwoModel", "changeAt", "[I", true)
  | 12 => ("OneEarOfTwoModel", "before", "[I", true)
  | 13 => ("OneEarOfTwoModel", "behind", "[I", true)
  | 14 => ("OneEarOfTwoModel", "tape", "[B", true)
  | 15 => ("OneEarOfTwoModel", "taped", "I", false)
  | 16 => ("OneEarOfTwoModel", "here", "I", false)
  | 17 => ("OneEarOfTwoModel", "fault", "I", false)
  | 18 => ("OneEarOfTwoModel", "open", "I", false)
  | 19 => ("OneEarOfTwoModel", "laid", "I", false)
  | 20 => ("OneEarOfTwoModel", "act", "[B", true)
  | 21 => ("OneEarOfTwoModel", "with", "[I", true)
  | 22 => ("OneEarOfTwoModel", "lineMany", "[I", true)
  | 23 => ("OneEarOfTwoModel", "testEnd", "[S", true)
  | 24 => ("OneEarOfTwoModel", "lineEnd", "[S", true)
  | 25 => ("OneEarOfTwoModel", "facts", "[I", true)
  | 26 => ("OneEarOfTwoModel", "pile", "[I", true)
  | 27 => ("OneEarOfTwoModel", "hasLaw", "Z", false)
  | 28 => ("OneEarOfTwoModel", "share", "[I", true)
  | 29 => ("OneEarOfTwoModel", "heard", "[I", true)
  | 30 => ("OneEarOfTwoModel", "at1", "I", false)
  | 31 => ("OneEarOfTwoModel", "minute", "I", false)
  | 32 => ("OneEarOfTwoModel", "found1", "I", false)
  | 33 => ("OneEarOfTwoModel", "goneShare", "I", false)
  | 34 => ("OneEarOfTwoModel", "foundBy", "I", false)
  | 35 => ("OneEarOfTwoModel", "wanted", "I", false)
  | 36 => ("OneEarOfTwoModel", "orderOf", "[I", true)
  | 37 => ("OneEarOfTwoModel", "bestOrder", "[I", true)
  | 38 => ("OneEarOfTwoModel", "mostFound", "I", false)
  | 39 => ("OneEarOfTwoModel", "withOne", "[J", true)
  | 40 => ("OneEarOfTwoModel", "withTwo", "[J", true)
  | 41 => ("OneEarOfTwoModel", "z1", "I", false)
  | 42 => ("OneEarOfTwoModel", "shareNow", "[I", true)
  | 43 => ("OneEarOfTwoModel", "heardNow", "[I", true)
  | 44 => ("OneEarOfTwoModel", "atNow", "I", false)
  | 45 => ("OneEarOfTwoModel", "now1", "I", false)
  | 46 => ("OneEarOfTwoModel", "ledOf", "[I", true)
  | 47 => ("OneEarOfTwoModel", "hasImage", "Z", false)
  | 48 => ("OneEarOfTwoModel", "keptMany", "I", false)
  | 49 => ("OneEarOfTwoModel", "keptAt", "I", false)
  | 50 => ("OneEarOfTwoModel", "keptNow", "I", false)
  | 51 => ("OneEarOfTwoModel", "keptShare", "[I", true)
  | 52 => ("OneEarOfTwoModel", "keptHeard", "[I", true)
  | 53 => ("OneEarOfTwoModel", "keptLed", "[I", true)
  | 54 => ("OneEarOfTwoModel", "bodies", "I", false)
  | 55 => ("OneEarOfTwoModel", "kind", "[I", true)
  | 56 => ("OneEarOfTwoModel", "traces", "I", false)
  | 57 => ("OneEarOfTwoModel", "traced", "[I", true)
  | 58 => ("OneEarOfTwoModel", "holds", "[I", true)
  | 59 => ("OneEarOfTwoModel", "size", "[I", true)
  | 60 => ("OneEarOfTwoModel", "elements", "[J", true)
  | _ => ("OneEarOfTwoModel", "shifted", "[J", true)
noncomputable def tyX11 : Nat → FieldType := fun k => match k with
  | 0 => .int
  | 1 => .int
  | 2 => .array .int
  | 3 => .array .int
  | 4 => .array .int
  | 5 => .array .int
  | 6 => .array .int
  | 7 => .array .int
  | 8 => .int
  | 9 => .int
  | 10 => .array .int
  | 11 => .array .int
  | 12 => .array .int
  | 13 => .array .int
  | 14 => .array .byte
  | 15 => .int
  | 16 => .int
  | 17 => .int
  | 18 => .int
  | 19 => .int
  | 20 => .array .byte
  | 21 => .array .int
  | 22 => .array .int
  | 23 => .array .short
  | 24 => .array .short
  | 25 => .array .int
  | 26 => .array .int
  | 27 => .boolean
  | 28 => .array .int
  | 29 => .array .int
  | 30 => .int
  | 31 => .int
  | 32 => .int
  | 33 => .int
  | 34 => .int
  | 35 => .int
  | 36 => .array .int
  | 37 => .array .int
  | 38 => .int
  | 39 => .array .long
  | 40 => .array .long
  | 41 => .int
  | 42 => .array .int
  | 43 => .array .int
  | 44 => .int
  | 45 => .int
  | 46 => .array .int
  | 47 => .boolean
  | 48 => .int
  | 49 => .int
  | 50 => .int
  | 51 => .array .int
  | 52 => .array .int
  | 53 => .array .int
  | 54 => .int
  | 55 => .array .int
  | 56 => .int
  | 57 => .array .int
  | 58 => .array .int
  | 59 => .array .int
  | 60 => .array .long
  | _ => .array .long
noncomputable abbrev wsX110 : List Cond := u_ws RX11 TX11 62
theorem nmX11 : ∀ a, a < 62 → ∀ b, b < 62 → a ≠ b → (TX11 a).2.1 ≠ (TX11 b).2.1 := by decide +kernel
theorem tyX11_ok : ∀ k, k < 62 → parseFieldDescriptor (TX11 k).2.2.1 = some (tyX11 k) := by decide +kernel
noncomputable abbrev cX11_init : ByteArray := prog_13_method_1_code
noncomputable def yX11_init : MethodName := ⟨RX11, "<init>", "()V"⟩
noncomputable abbrev cX11_in : ByteArray := prog_13_method_3_code
noncomputable def yX11_in : MethodName := ⟨RX11, "in", "(III)Z"⟩
noncomputable abbrev cX11_apart : ByteArray := prog_13_method_4_code
noncomputable def yX11_apart : MethodName := ⟨RX11, "apart", "(II)I"⟩
noncomputable abbrev cX11_bitsOf : ByteArray := prog_13_method_5_code
noncomputable def yX11_bitsOf : MethodName := ⟨RX11, "bitsOf", "(I)I"⟩
noncomputable abbrev cX11_isPlace : ByteArray := prog_13_method_6_code
noncomputable def yX11_isPlace : MethodName := ⟨RX11, "isPlace", "(I)Z"⟩
noncomputable abbrev cX11_addPlace : ByteArray := prog_13_method_7_code
noncomputable def yX11_addPlace : MethodName := ⟨RX11, "addPlace", "(III)I"⟩
noncomputable abbrev cX11_place : ByteArray := prog_13_method_8_code
noncomputable def yX11_place : MethodName := ⟨RX11, "place", "(II)I"⟩
noncomputable abbrev cX11_places : ByteArray := prog_13_method_9_code
noncomputable def yX11_places : MethodName := ⟨RX11, "places", "(III)I"⟩
noncomputable abbrev cX11_valueAt : ByteArray := prog_13_method_10_code
noncomputable def yX11_valueAt : MethodName := ⟨RX11, "valueAt", "(II)I"⟩
noncomputable abbrev cX11_lays : ByteArray := prog_13_method_11_code
noncomputable def yX11_lays : MethodName := ⟨RX11, "lays", "(III)V"⟩
noncomputable abbrev cX11_changes : ByteArray := prog_13_method_12_code
noncomputable def yX11_changes : MethodName := ⟨RX11, "changes", "(III)I"⟩
noncomputable abbrev cX11_undo : ByteArray := prog_13_method_13_code
noncomputable def yX11_undo : MethodName := ⟨RX11, "undo", "()I"⟩
noncomputable abbrev cX11_redo : ByteArray := prog_13_method_14_code
noncomputable def yX11_redo : MethodName := ⟨RX11, "redo", "()I"⟩
noncomputable abbrev cX11_isOne : ByteArray := prog_13_method_15_code
noncomputable def yX11_isOne : MethodName := ⟨RX11, "isOne", "(II)Z"⟩
noncomputable abbrev cX11_mayBe : ByteArray := prog_13_method_16_code
noncomputable def yX11_mayBe : MethodName := ⟨RX11, "mayBe", "(II)Z"⟩
noncomputable abbrev cX11_mend : ByteArray := prog_13_method_17_code
noncomputable def yX11_mend : MethodName := ⟨RX11, "mend", "(III)I"⟩
noncomputable abbrev cX11_of : ByteArray := prog_13_method_18_code
noncomputable def yX11_of : MethodName := ⟨RX11, "of", "(II)I"⟩
noncomputable abbrev cX11_feed : ByteArray := prog_13_method_19_code
noncomputable def yX11_feed : MethodName := ⟨RX11, "feed", "(I)I"⟩
noncomputable abbrev cX11_look : ByteArray := prog_13_method_20_code
noncomputable def yX11_look : MethodName := ⟨RX11, "look", "()I"⟩
noncomputable abbrev cX11_wrong : ByteArray := prog_13_method_21_code
noncomputable def yX11_wrong : MethodName := ⟨RX11, "wrong", "()V"⟩
noncomputable abbrev cX11_addStep : ByteArray := prog_13_method_22_code
noncomputable def yX11_addStep : MethodName := ⟨RX11, "addStep", "(II)V"⟩
noncomputable abbrev cX11_nameOf : ByteArray := prog_13_method_23_code
noncomputable def yX11_nameOf : MethodName := ⟨RX11, "nameOf", "(I)I"⟩
noncomputable abbrev cX11_opens : ByteArray := prog_13_method_24_code
noncomputable def yX11_opens : MethodName := ⟨RX11, "opens", "()Z"⟩
noncomputable abbrev cX11_figure : ByteArray := prog_13_method_25_code
noncomputable def yX11_figure : MethodName := ⟨RX11, "figure", "()V"⟩
noncomputable abbrev cX11_operand : ByteArray := prog_13_method_26_code
noncomputable def yX11_operand : MethodName := ⟨RX11, "operand", "()V"⟩
noncomputable abbrev cX11_product : ByteArray := prog_13_method_27_code
noncomputable def yX11_product : MethodName := ⟨RX11, "product", "()V"⟩
noncomputable abbrev cX11_sum : ByteArray := prog_13_method_28_code
noncomputable def yX11_sum : MethodName := ⟨RX11, "sum", "()V"⟩
noncomputable abbrev cX11_compared : ByteArray := prog_13_method_29_code
noncomputable def yX11_compared : MethodName := ⟨RX11, "compared", "()V"⟩
noncomputable abbrev cX11_both : ByteArray := prog_13_method_30_code
noncomputable def yX11_both : MethodName := ⟨RX11, "both", "()V"⟩
noncomputable abbrev cX11_either : ByteArray := prog_13_method_31_code
noncomputable def yX11_either : MethodName := ⟨RX11, "either", "()V"⟩
noncomputable abbrev cX11_line : ByteArray := prog_13_method_32_code
noncomputable def yX11_line : MethodName := ⟨RX11, "line", "()V"⟩
noncomputable abbrev cX11_readText : ByteArray := prog_13_method_33_code
noncomputable def yX11_readText : MethodName := ⟨RX11, "readText", "(I)I"⟩
noncomputable abbrev cX11_twoOf : ByteArray := prog_13_method_34_code
noncomputable def yX11_twoOf : MethodName := ⟨RX11, "twoOf", "(III)I"⟩
noncomputable abbrev cX11_worked : ByteArray := prog_13_method_35_code
noncomputable def yX11_worked : MethodName := ⟨RX11, "worked", "(III)I"⟩
noncomputable abbrev cX11_gives : ByteArray := prog_13_method_36_code
noncomputable def yX11_gives : MethodName := ⟨RX11, "gives", "(I)I"⟩
noncomputable abbrev cX11_law : ByteArray := prog_13_method_37_code
noncomputable def yX11_law : MethodName := ⟨RX11, "law", "()I"⟩
noncomputable abbrev cX11_hearsBy : ByteArray := prog_13_method_38_code
noncomputable def yX11_hearsBy : MethodName := ⟨RX11, "hearsBy", "(III)I"⟩
noncomputable abbrev cX11_hears : ByteArray := prog_13_method_39_code
noncomputable def yX11_hears : MethodName := ⟨RX11, "hears", "(II)I"⟩
noncomputable abbrev cX11_allOdds : ByteArray := prog_13_method_40_code
noncomputable def yX11_allOdds : MethodName := ⟨RX11, "allOdds", "()I"⟩
noncomputable abbrev cX11_partOf : ByteArray := prog_13_method_41_code
noncomputable def yX11_partOf : MethodName := ⟨RX11, "partOf", "(II)I"⟩
noncomputable abbrev cX11_beginRound : ByteArray := prog_13_method_42_code
noncomputable def yX11_beginRound : MethodName := ⟨RX11, "beginRound", "()V"⟩
noncomputable abbrev cX11_wayTo : ByteArray := prog_13_method_43_code
noncomputable def yX11_wayTo : MethodName := ⟨RX11, "wayTo", "(I)I"⟩
noncomputable abbrev cX11_listensIn : ByteArray := prog_13_method_44_code
noncomputable def yX11_listensIn : MethodName := ⟨RX11, "listensIn", "(II)I"⟩
noncomputable abbrev cX11_endsIn : ByteArray := prog_13_method_45_code
noncomputable def yX11_endsIn : MethodName := ⟨RX11, "endsIn", "(II)Z"⟩
noncomputable abbrev cX11_goTo : ByteArray := prog_13_method_46_code
noncomputable def yX11_goTo : MethodName := ⟨RX11, "goTo", "(II)V"⟩
noncomputable abbrev cX11_rowFault : ByteArray := prog_13_method_47_code
noncomputable def yX11_rowFault : MethodName := ⟨RX11, "rowFault", "(I)I"⟩
noncomputable abbrev cX11_element1 : ByteArray := prog_13_method_48_code
noncomputable def yX11_element1 : MethodName := ⟨RX11, "element1", "(II)I"⟩
noncomputable abbrev cX11_counts : ByteArray := prog_13_method_49_code
noncomputable def yX11_counts : MethodName := ⟨RX11, "counts", "(II)Z"⟩
noncomputable abbrev cX11_goRound : ByteArray := prog_13_method_50_code
noncomputable def yX11_goRound : MethodName := ⟨RX11, "goRound", "(II)I"⟩
noncomputable abbrev cX11_round : ByteArray := prog_13_method_51_code
noncomputable def yX11_round : MethodName := ⟨RX11, "round", "(II)I"⟩
noncomputable abbrev cX11_leftAll : ByteArray := prog_13_method_52_code
noncomputable def yX11_leftAll : MethodName := ⟨RX11, "leftAll", "()I"⟩
noncomputable abbrev cX11_likeliest : ByteArray := prog_13_method_53_code
noncomputable def yX11_likeliest : MethodName := ⟨RX11, "likeliest", "()I"⟩
noncomputable abbrev cX11_ifNot : ByteArray := prog_13_method_54_code
noncomputable def yX11_ifNot : MethodName := ⟨RX11, "ifNot", "(II)I"⟩
noncomputable abbrev cX11_by : ByteArray := prog_13_method_55_code
noncomputable def yX11_by : MethodName := ⟨RX11, "by", "(II)I"⟩
noncomputable abbrev cX11_growth : ByteArray := prog_13_method_56_code
noncomputable def yX11_growth : MethodName := ⟨RX11, "growth", "(II)I"⟩
noncomputable abbrev cX11_next : ByteArray := prog_13_method_57_code
noncomputable def yX11_next : MethodName := ⟨RX11, "next", "(III)I"⟩
noncomputable abbrev cX11_stay : ByteArray := prog_13_method_58_code
noncomputable def yX11_stay : MethodName := ⟨RX11, "stay", "(II)I"⟩
noncomputable abbrev cX11_tryOrder : ByteArray := prog_13_method_59_code
noncomputable def yX11_tryOrder : MethodName := ⟨RX11, "tryOrder", "(II)V"⟩
noncomputable abbrev cX11_goOrders : ByteArray := prog_13_method_60_code
noncomputable def yX11_goOrders : MethodName := ⟨RX11, "goOrders", "(IIII)V"⟩
noncomputable abbrev cX11_best : ByteArray := prog_13_method_61_code
noncomputable def yX11_best : MethodName := ⟨RX11, "best", "(III)I"⟩
noncomputable abbrev cX11_giveUp : ByteArray := prog_13_method_62_code
noncomputable def yX11_giveUp : MethodName := ⟨RX11, "giveUp", "(III)I"⟩
noncomputable abbrev cX11_apartFrom : ByteArray := prog_13_method_63_code
noncomputable def yX11_apartFrom : MethodName := ⟨RX11, "apartFrom", "(II)I"⟩
noncomputable abbrev cX11_seen : ByteArray := prog_13_method_64_code
noncomputable def yX11_seen : MethodName := ⟨RX11, "seen", "(II)I"⟩
noncomputable abbrev cX11_dead : ByteArray := prog_13_method_65_code
noncomputable def yX11_dead : MethodName := ⟨RX11, "dead", "(I)I"⟩
noncomputable abbrev cX11_bought : ByteArray := prog_13_method_66_code
noncomputable def yX11_bought : MethodName := ⟨RX11, "bought", "(II)J"⟩
noncomputable abbrev cX11_doneIn : ByteArray := prog_13_method_67_code
noncomputable def yX11_doneIn : MethodName := ⟨RX11, "doneIn", "(I)I"⟩
noncomputable abbrev cX11_findYears : ByteArray := prog_13_method_68_code
noncomputable def yX11_findYears : MethodName := ⟨RX11, "findYears", "()V"⟩
noncomputable abbrev cX11_buy : ByteArray := prog_13_method_69_code
noncomputable def yX11_buy : MethodName := ⟨RX11, "buy", "(II)I"⟩
noncomputable abbrev cX11_waits : ByteArray := prog_13_method_70_code
noncomputable def yX11_waits : MethodName := ⟨RX11, "waits", "(I)I"⟩
noncomputable abbrev cX11_strangers : ByteArray := prog_13_method_71_code
noncomputable def yX11_strangers : MethodName := ⟨RX11, "strangers", "(II)I"⟩
noncomputable abbrev cX11_worn : ByteArray := prog_13_method_72_code
noncomputable def yX11_worn : MethodName := ⟨RX11, "worn", "(I)I"⟩
noncomputable abbrev cX11_grass : ByteArray := prog_13_method_73_code
noncomputable def yX11_grass : MethodName := ⟨RX11, "grass", "(II)I"⟩
noncomputable abbrev cX11_liesBy : ByteArray := prog_13_method_74_code
noncomputable def yX11_liesBy : MethodName := ⟨RX11, "liesBy", "(I)I"⟩
noncomputable abbrev cX11_foundIn : ByteArray := prog_13_method_75_code
noncomputable def yX11_foundIn : MethodName := ⟨RX11, "foundIn", "(II)I"⟩
noncomputable abbrev cX11_drawn : ByteArray := prog_13_method_76_code
noncomputable def yX11_drawn : MethodName := ⟨RX11, "drawn", "(IIII)I"⟩
noncomputable abbrev cX11_layDeed : ByteArray := prog_13_method_77_code
noncomputable def yX11_layDeed : MethodName := ⟨RX11, "layDeed", "()V"⟩
noncomputable abbrev cX11_go : ByteArray := prog_13_method_78_code
noncomputable def yX11_go : MethodName := ⟨RX11, "go", "(I)I"⟩
noncomputable abbrev cX11_listen : ByteArray := prog_13_method_79_code
noncomputable def yX11_listen : MethodName := ⟨RX11, "listen", "(I)I"⟩
noncomputable abbrev cX11_find : ByteArray := prog_13_method_80_code
noncomputable def yX11_find : MethodName := ⟨RX11, "find", "(I)I"⟩
noncomputable abbrev cX11_again : ByteArray := prog_13_method_81_code
noncomputable def yX11_again : MethodName := ⟨RX11, "again", "()I"⟩
noncomputable abbrev cX11_led : ByteArray := prog_13_method_82_code
noncomputable def yX11_led : MethodName := ⟨RX11, "led", "(I)I"⟩
noncomputable abbrev cX11_image : ByteArray := prog_13_method_83_code
noncomputable def yX11_image : MethodName := ⟨RX11, "image", "()I"⟩
noncomputable abbrev cX11_back : ByteArray := prog_13_method_84_code
noncomputable def yX11_back : MethodName := ⟨RX11, "back", "()I"⟩
noncomputable abbrev cX11_isBody : ByteArray := prog_13_method_85_code
noncomputable def yX11_isBody : MethodName := ⟨RX11, "isBody", "(I)Z"⟩
noncomputable abbrev cX11_ran : ByteArray := prog_13_method_86_code
noncomputable def yX11_ran : MethodName := ⟨RX11, "ran", "(I)V"⟩
noncomputable abbrev cX11_trace : ByteArray := prog_13_method_87_code
noncomputable def yX11_trace : MethodName := ⟨RX11, "trace", "(I)I"⟩
noncomputable abbrev cX11_body : ByteArray := prog_13_method_88_code
noncomputable def yX11_body : MethodName := ⟨RX11, "body", "(I)I"⟩
noncomputable abbrev cX11_isUnder : ByteArray := prog_13_method_89_code
noncomputable def yX11_isUnder : MethodName := ⟨RX11, "isUnder", "(II)Z"⟩
noncomputable abbrev cX11_plainLies : ByteArray := prog_13_method_90_code
noncomputable def yX11_plainLies : MethodName := ⟨RX11, "plainLies", "(II)I"⟩
noncomputable abbrev cX11_troddenLies : ByteArray := prog_13_method_91_code
noncomputable def yX11_troddenLies : MethodName := ⟨RX11, "troddenLies", "(II)I"⟩
noncomputable abbrev cX11_lying : ByteArray := prog_13_method_92_code
noncomputable def yX11_lying : MethodName := ⟨RX11, "lying", "(II)I"⟩
noncomputable abbrev cX11_plainHears : ByteArray := prog_13_method_93_code
noncomputable def yX11_plainHears : MethodName := ⟨RX11, "plainHears", "(II)I"⟩
noncomputable abbrev cX11_heardHears : ByteArray := prog_13_method_94_code
noncomputable def yX11_heardHears : MethodName := ⟨RX11, "heardHears", "(II)I"⟩
noncomputable abbrev cX11_hearing : ByteArray := prog_13_method_95_code
noncomputable def yX11_hearing : MethodName := ⟨RX11, "hearing", "(II)I"⟩
noncomputable abbrev cX11_plainWaits : ByteArray := prog_13_method_96_code
noncomputable def yX11_plainWaits : MethodName := ⟨RX11, "plainWaits", "(II)I"⟩
noncomputable abbrev cX11_silentWaits : ByteArray := prog_13_method_97_code
noncomputable def yX11_silentWaits : MethodName := ⟨RX11, "silentWaits", "(II)I"⟩
noncomputable abbrev cX11_waiting : ByteArray := prog_13_method_98_code
noncomputable def yX11_waiting : MethodName := ⟨RX11, "waiting", "(II)I"⟩
noncomputable abbrev cX11_plainTells : ByteArray := prog_13_method_99_code
noncomputable def yX11_plainTells : MethodName := ⟨RX11, "plainTells", "(II)I"⟩
noncomputable abbrev cX11_telling : ByteArray := prog_13_method_100_code
noncomputable def yX11_telling : MethodName := ⟨RX11, "telling", "(II)I"⟩
noncomputable abbrev cX11_act : ByteArray := prog_13_method_101_code
noncomputable def yX11_act : MethodName := ⟨RX11, "act", "(III)I"⟩
noncomputable abbrev cX11_count : ByteArray := prog_13_method_102_code
noncomputable def yX11_count : MethodName := ⟨RX11, "count", "(I)I"⟩
noncomputable abbrev cX11_isShelf : ByteArray := prog_13_method_103_code
noncomputable def yX11_isShelf : MethodName := ⟨RX11, "isShelf", "(I)Z"⟩
noncomputable abbrev cX11_keep : ByteArray := prog_13_method_104_code
noncomputable def yX11_keep : MethodName := ⟨RX11, "keep", "(II)I"⟩
noncomputable abbrev cX11_row : ByteArray := prog_13_method_105_code
noncomputable def yX11_row : MethodName := ⟨RX11, "row", "(III)I"⟩
noncomputable abbrev cX11_whyNoPlace : ByteArray := prog_13_method_106_code
noncomputable def yX11_whyNoPlace : MethodName := ⟨RX11, "whyNoPlace", "(II)I"⟩
noncomputable abbrev cX11_put : ByteArray := prog_13_method_107_code
noncomputable def yX11_put : MethodName := ⟨RX11, "put", "(IIJ)I"⟩
noncomputable abbrev cX11_element : ByteArray := prog_13_method_108_code
noncomputable def yX11_element : MethodName := ⟨RX11, "element", "(II)J"⟩
noncomputable abbrev cX11_shift : ByteArray := prog_13_method_109_code
noncomputable def yX11_shift : MethodName := ⟨RX11, "shift", "(IIIII)I"⟩
noncomputable abbrev cX11_taken : ByteArray := prog_13_method_110_code
noncomputable def yX11_taken : MethodName := ⟨RX11, "taken", "(II)I"⟩
noncomputable def RJ6 : String := "java/lang/Integer"
noncomputable abbrev cJ6_bitCount_0f7a4 : ByteArray := prog_14_method_49_code
noncomputable def yJ6_bitCount_0f7a4 : MethodName := ⟨RJ6, "bitCount", "(I)I"⟩
noncomputable def RJ9 : String := "java/lang/Math"
noncomputable abbrev cJ9_abs_0f7a4 : ByteArray := prog_15_method_59_code
noncomputable def yJ9_abs_0f7a4 : MethodName := ⟨RJ9, "abs", "(I)I"⟩
noncomputable abbrev cJ9_max_7cf53 : ByteArray := prog_15_method_65_code
noncomputable def yJ9_max_7cf53 : MethodName := ⟨RJ9, "max", "(II)I"⟩
noncomputable abbrev cJ9_min_7cf53 : ByteArray := prog_15_method_69_code
noncomputable def yJ9_min_7cf53 : MethodName := ⟨RJ9, "min", "(II)I"⟩
noncomputable def RJ10 : String := "java/lang/System"
noncomputable def RL : String := "OneEarOfTwoLaw"
noncomputable abbrev cL_law : ByteArray := code
noncomputable def yL_law : MethodName := ⟨RL, "law", "([I)Z"⟩
noncomputable abbrev vwCl : List vw_C := [(RX0, TX0, 6), (RX1, TX1, 7), (RX2, TX2, 9), (RX3, TX3, 17), (RX4, TX4, 5), (RX5, TX5, 5), (RX6, TX6, 3), (RX7, TX7, 5), (RX8, TX8, 14), (RX9, TX9, 3), (RX10, TX10, 12), (RX11, TX11, 62)]
