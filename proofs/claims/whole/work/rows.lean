section
-- ===== PART A: goes FIRST, ahead of the names: the tables' words, and 'selects' of the private methods out of them =====
/-- a private method of a class that the tables say can be made, by its rows of tables_1 -/
def lw_okq (q : MethodName × Nat) : Prop := (q.1.cls ≠ "java/lang/invoke/MethodHandle" ∧ q.1.cls ≠ "java/lang/invoke/VarHandle") ∧ Cond.instantiable q.1.cls q.2 ∈ tables_1 ∧ Cond.privateMethod q.1 ∈ tables_1 ∧ Cond.instanceMethod q.1 ∈ tables_1
theorem lw_p0 : lw_okq (⟨"java/lang/Throwable", "fillInStackTrace", "(I)Ljava/lang/Throwable;"⟩, 6) := ⟨⟨by decide +kernel, by decide +kernel⟩, List.mem_of_getElem? (i := 346) (by decide +kernel), List.mem_of_getElem? (i := 344) (by decide +kernel), List.mem_of_getElem? (i := 345) (by decide +kernel)⟩
theorem lw_p1 : lw_okq (⟨"ClaqueRow", "beginEvening", "()V"⟩, 6) := ⟨⟨by decide +kernel, by decide +kernel⟩, List.mem_of_getElem? (i := 32) (by decide +kernel), List.mem_of_getElem? (i := 388) (by decide +kernel), List.mem_of_getElem? (i := 389) (by decide +kernel)⟩
theorem lw_p2 : lw_okq (⟨"ClaqueRow", "existingSeat", "(II)LClaqueRow$Seat;"⟩, 6) := ⟨⟨by decide +kernel, by decide +kernel⟩, List.mem_of_getElem? (i := 32) (by decide +kernel), List.mem_of_getElem? (i := 432) (by decide +kernel), List.mem_of_getElem? (i := 433) (by decide +kernel)⟩
theorem lw_p3 : lw_okq (⟨"ClaqueRow", "existingHand", "(I)LClaqueRow$Hand;"⟩, 6) := ⟨⟨by decide +kernel, by decide +kernel⟩, List.mem_of_getElem? (i := 32) (by decide +kernel), List.mem_of_getElem? (i := 465) (by decide +kernel), List.mem_of_getElem? (i := 466) (by decide +kernel)⟩
theorem lw_p4 : lw_okq (⟨"java/util/ArrayList", "add", "(Ljava/lang/Object;[Ljava/lang/Object;I)V"⟩, 3) := ⟨⟨by decide +kernel, by decide +kernel⟩, List.mem_of_getElem? (i := 113) (by decide +kernel), List.mem_of_getElem? (i := 564) (by decide +kernel), List.mem_of_getElem? (i := 565) (by decide +kernel)⟩
theorem lw_p5 : lw_okq (⟨"java/util/ArrayList", "grow", "()[Ljava/lang/Object;"⟩, 3) := ⟨⟨by decide +kernel, by decide +kernel⟩, List.mem_of_getElem? (i := 113) (by decide +kernel), List.mem_of_getElem? (i := 568) (by decide +kernel), List.mem_of_getElem? (i := 569) (by decide +kernel)⟩
theorem lw_p6 : lw_okq (⟨"java/util/ArrayList", "grow", "(I)[Ljava/lang/Object;"⟩, 3) := ⟨⟨by decide +kernel, by decide +kernel⟩, List.mem_of_getElem? (i := 113) (by decide +kernel), List.mem_of_getElem? (i := 572) (by decide +kernel), List.mem_of_getElem? (i := 573) (by decide +kernel)⟩
theorem lw_p7 : lw_okq (⟨"ClaqueRow", "existingSinger", "(I)LClaqueRow$Singer;"⟩, 6) := ⟨⟨by decide +kernel, by decide +kernel⟩, List.mem_of_getElem? (i := 32) (by decide +kernel), List.mem_of_getElem? (i := 669) (by decide +kernel), List.mem_of_getElem? (i := 670) (by decide +kernel)⟩
theorem lw_p8 : lw_okq (⟨"ClaqueRow", "checkHouse", "()V"⟩, 6) := ⟨⟨by decide +kernel, by decide +kernel⟩, List.mem_of_getElem? (i := 32) (by decide +kernel), List.mem_of_getElem? (i := 716) (by decide +kernel), List.mem_of_getElem? (i := 717) (by decide +kernel)⟩
theorem lw_p9 : lw_okq (⟨"ClaqueRow$Evening", "soundSeat", "(LClaqueRow$House;II)V"⟩, 7) := ⟨⟨by decide +kernel, by decide +kernel⟩, List.mem_of_getElem? (i := 146) (by decide +kernel), List.mem_of_getElem? (i := 733) (by decide +kernel), List.mem_of_getElem? (i := 734) (by decide +kernel)⟩
theorem lw_p10 : lw_okq (⟨"ClaqueRow$Evening", "noiseOf", "(LClaqueRow$Hand;)I"⟩, 7) := ⟨⟨by decide +kernel, by decide +kernel⟩, List.mem_of_getElem? (i := 146) (by decide +kernel), List.mem_of_getElem? (i := 757) (by decide +kernel), List.mem_of_getElem? (i := 758) (by decide +kernel)⟩
theorem lw_p11 : lw_okq (⟨"ClaqueRow$Evening", "hearNoise", "(I)V"⟩, 7) := ⟨⟨by decide +kernel, by decide +kernel⟩, List.mem_of_getElem? (i := 146) (by decide +kernel), List.mem_of_getElem? (i := 780) (by decide +kernel), List.mem_of_getElem? (i := 781) (by decide +kernel)⟩
theorem lw_p12 : lw_okq (⟨"ClaqueRow$Evening", "lastBegunCue", "()LClaqueRow$Cue;"⟩, 7) := ⟨⟨by decide +kernel, by decide +kernel⟩, List.mem_of_getElem? (i := 146) (by decide +kernel), List.mem_of_getElem? (i := 784) (by decide +kernel), List.mem_of_getElem? (i := 785) (by decide +kernel)⟩
theorem lw_p13 : lw_okq (⟨"ClaqueRow$Evening", "judgeCues", "(II)V"⟩, 7) := ⟨⟨by decide +kernel, by decide +kernel⟩, List.mem_of_getElem? (i := 146) (by decide +kernel), List.mem_of_getElem? (i := 792) (by decide +kernel), List.mem_of_getElem? (i := 793) (by decide +kernel)⟩
theorem lw_p14 : lw_okq (⟨"ClaqueRow", "billFor", "(LClaqueRow$Singer;)I"⟩, 6) := ⟨⟨by decide +kernel, by decide +kernel⟩, List.mem_of_getElem? (i := 32) (by decide +kernel), List.mem_of_getElem? (i := 827) (by decide +kernel), List.mem_of_getElem? (i := 828) (by decide +kernel)⟩
theorem lw_p15 : lw_okq (⟨"ClaqueRow", "existingPlan", "(I)I"⟩, 6) := ⟨⟨by decide +kernel, by decide +kernel⟩, List.mem_of_getElem? (i := 32) (by decide +kernel), List.mem_of_getElem? (i := 891) (by decide +kernel), List.mem_of_getElem? (i := 892) (by decide +kernel)⟩
def lw_privs_1 : List (MethodName × Nat) := [(⟨"java/lang/Throwable", "fillInStackTrace", "(I)Ljava/lang/Throwable;"⟩, 6), (⟨"ClaqueRow", "beginEvening", "()V"⟩, 6), (⟨"ClaqueRow", "existingSeat", "(II)LClaqueRow$Seat;"⟩, 6), (⟨"ClaqueRow", "existingHand", "(I)LClaqueRow$Hand;"⟩, 6), (⟨"java/util/ArrayList", "add", "(Ljava/lang/Object;[Ljava/lang/Object;I)V"⟩, 3), (⟨"java/util/ArrayList", "grow", "()[Ljava/lang/Object;"⟩, 3), (⟨"java/util/ArrayList", "grow", "(I)[Ljava/lang/Object;"⟩, 3), (⟨"ClaqueRow", "existingSinger", "(I)LClaqueRow$Singer;"⟩, 6), (⟨"ClaqueRow", "checkHouse", "()V"⟩, 6), (⟨"ClaqueRow$Evening", "soundSeat", "(LClaqueRow$House;II)V"⟩, 7), (⟨"ClaqueRow$Evening", "noiseOf", "(LClaqueRow$Hand;)I"⟩, 7), (⟨"ClaqueRow$Evening", "hearNoise", "(I)V"⟩, 7), (⟨"ClaqueRow$Evening", "lastBegunCue", "()LClaqueRow$Cue;"⟩, 7), (⟨"ClaqueRow$Evening", "judgeCues", "(II)V"⟩, 7), (⟨"ClaqueRow", "billFor", "(LClaqueRow$Singer;)I"⟩, 6), (⟨"ClaqueRow", "existingPlan", "(I)I"⟩, 6)]
theorem lw_r1 : ∀ q ∈ lw_privs_1, lw_okq q := List.forall_mem_cons.mpr ⟨lw_p0, List.forall_mem_cons.mpr ⟨lw_p1, List.forall_mem_cons.mpr ⟨lw_p2, List.forall_mem_cons.mpr ⟨lw_p3, List.forall_mem_cons.mpr ⟨lw_p4, List.forall_mem_cons.mpr ⟨lw_p5, List.forall_mem_cons.mpr ⟨lw_p6, List.forall_mem_cons.mpr ⟨lw_p7, List.forall_mem_cons.mpr ⟨lw_p8, List.forall_mem_cons.mpr ⟨lw_p9, List.forall_mem_cons.mpr ⟨lw_p10, List.forall_mem_cons.mpr ⟨lw_p11, List.forall_mem_cons.mpr ⟨lw_p12, List.forall_mem_cons.mpr ⟨lw_p13, List.forall_mem_cons.mpr ⟨lw_p14, List.forall_mem_cons.mpr ⟨lw_p15, fun _ h => absurd h List.not_mem_nil⟩⟩⟩⟩⟩⟩⟩⟩⟩⟩⟩⟩⟩⟩⟩⟩
theorem lw_p16 : lw_okq (⟨"ClaqueRow$Troupe", "strengthOf", "(I)I"⟩, 1) := ⟨⟨by decide +kernel, by decide +kernel⟩, List.mem_of_getElem? (i := 107) (by decide +kernel), List.mem_of_getElem? (i := 899) (by decide +kernel), List.mem_of_getElem? (i := 900) (by decide +kernel)⟩
theorem lw_p17 : lw_okq (⟨"ClaqueRow$Troupe", "isBetter", "(II)Z"⟩, 1) := ⟨⟨by decide +kernel, by decide +kernel⟩, List.mem_of_getElem? (i := 107) (by decide +kernel), List.mem_of_getElem? (i := 906) (by decide +kernel), List.mem_of_getElem? (i := 907) (by decide +kernel)⟩
theorem lw_p18 : lw_okq (⟨"ClaqueRowModel", "empties", "(I)V"⟩, 37) := ⟨⟨by decide +kernel, by decide +kernel⟩, List.mem_of_getElem? (i := 980) (by decide +kernel), List.mem_of_getElem? (i := 986) (by decide +kernel), List.mem_of_getElem? (i := 987) (by decide +kernel)⟩
theorem lw_p19 : lw_okq (⟨"ClaqueRowModel", "rests", "(I)V"⟩, 37) := ⟨⟨by decide +kernel, by decide +kernel⟩, List.mem_of_getElem? (i := 980) (by decide +kernel), List.mem_of_getElem? (i := 990) (by decide +kernel), List.mem_of_getElem? (i := 991) (by decide +kernel)⟩
theorem lw_p20 : lw_okq (⟨"ClaqueRowModel", "fails", "(I)I"⟩, 37) := ⟨⟨by decide +kernel, by decide +kernel⟩, List.mem_of_getElem? (i := 980) (by decide +kernel), List.mem_of_getElem? (i := 1120) (by decide +kernel), List.mem_of_getElem? (i := 1121) (by decide +kernel)⟩
theorem lw_p21 : lw_okq (⟨"ClaqueRowModel", "begins", "()V"⟩, 37) := ⟨⟨by decide +kernel, by decide +kernel⟩, List.mem_of_getElem? (i := 980) (by decide +kernel), List.mem_of_getElem? (i := 1124) (by decide +kernel), List.mem_of_getElem? (i := 1125) (by decide +kernel)⟩
theorem lw_p22 : lw_okq (⟨"ClaqueRowModel", "tells", "(I)I"⟩, 37) := ⟨⟨by decide +kernel, by decide +kernel⟩, List.mem_of_getElem? (i := 980) (by decide +kernel), List.mem_of_getElem? (i := 1128) (by decide +kernel), List.mem_of_getElem? (i := 1129) (by decide +kernel)⟩
theorem lw_p23 : lw_okq (⟨"ClaqueRowModel", "isSeat", "(II)Z"⟩, 37) := ⟨⟨by decide +kernel, by decide +kernel⟩, List.mem_of_getElem? (i := 980) (by decide +kernel), List.mem_of_getElem? (i := 1136) (by decide +kernel), List.mem_of_getElem? (i := 1137) (by decide +kernel)⟩
theorem lw_p24 : lw_okq (⟨"ClaqueRowModel", "failsAs", "(I)C"⟩, 37) := ⟨⟨by decide +kernel, by decide +kernel⟩, List.mem_of_getElem? (i := 980) (by decide +kernel), List.mem_of_getElem? (i := 1140) (by decide +kernel), List.mem_of_getElem? (i := 1141) (by decide +kernel)⟩
theorem lw_p25 : lw_okq (⟨"ClaqueRowModel", "tellsAs", "(C)C"⟩, 37) := ⟨⟨by decide +kernel, by decide +kernel⟩, List.mem_of_getElem? (i := 980) (by decide +kernel), List.mem_of_getElem? (i := 1144) (by decide +kernel), List.mem_of_getElem? (i := 1145) (by decide +kernel)⟩
theorem lw_p26 : lw_okq (⟨"ClaqueRowModel", "isHand", "(I)Z"⟩, 37) := ⟨⟨by decide +kernel, by decide +kernel⟩, List.mem_of_getElem? (i := 980) (by decide +kernel), List.mem_of_getElem? (i := 1156) (by decide +kernel), List.mem_of_getElem? (i := 1157) (by decide +kernel)⟩
theorem lw_p27 : lw_okq (⟨"ClaqueRowModel", "failsIf", "(I)Z"⟩, 37) := ⟨⟨by decide +kernel, by decide +kernel⟩, List.mem_of_getElem? (i := 980) (by decide +kernel), List.mem_of_getElem? (i := 1179) (by decide +kernel), List.mem_of_getElem? (i := 1180) (by decide +kernel)⟩
theorem lw_p28 : lw_okq (⟨"ClaqueRowModel", "isSinger", "(I)Z"⟩, 37) := ⟨⟨by decide +kernel, by decide +kernel⟩, List.mem_of_getElem? (i := 980) (by decide +kernel), List.mem_of_getElem? (i := 1191) (by decide +kernel), List.mem_of_getElem? (i := 1192) (by decide +kernel)⟩
theorem lw_p29 : lw_okq (⟨"ClaqueRowModel", "goes", "()V"⟩, 37) := ⟨⟨by decide +kernel, by decide +kernel⟩, List.mem_of_getElem? (i := 980) (by decide +kernel), List.mem_of_getElem? (i := 1203) (by decide +kernel), List.mem_of_getElem? (i := 1204) (by decide +kernel)⟩
theorem lw_p30 : lw_okq (⟨"ClaqueRowModel", "sits", "(I)V"⟩, 37) := ⟨⟨by decide +kernel, by decide +kernel⟩, List.mem_of_getElem? (i := 980) (by decide +kernel), List.mem_of_getElem? (i := 1207) (by decide +kernel), List.mem_of_getElem? (i := 1208) (by decide +kernel)⟩
theorem lw_p31 : lw_okq (⟨"ClaqueRowModel", "handNoise", "(I)I"⟩, 37) := ⟨⟨by decide +kernel, by decide +kernel⟩, List.mem_of_getElem? (i := 980) (by decide +kernel), List.mem_of_getElem? (i := 1211) (by decide +kernel), List.mem_of_getElem? (i := 1212) (by decide +kernel)⟩
def lw_privs_2 : List (MethodName × Nat) := [(⟨"ClaqueRow$Troupe", "strengthOf", "(I)I"⟩, 1), (⟨"ClaqueRow$Troupe", "isBetter", "(II)Z"⟩, 1), (⟨"ClaqueRowModel", "empties", "(I)V"⟩, 37), (⟨"ClaqueRowModel", "rests", "(I)V"⟩, 37), (⟨"ClaqueRowModel", "fails", "(I)I"⟩, 37), (⟨"ClaqueRowModel", "begins", "()V"⟩, 37), (⟨"ClaqueRowModel", "tells", "(I)I"⟩, 37), (⟨"ClaqueRowModel", "isSeat", "(II)Z"⟩, 37), (⟨"ClaqueRowModel", "failsAs", "(I)C"⟩, 37), (⟨"ClaqueRowModel", "tellsAs", "(C)C"⟩, 37), (⟨"ClaqueRowModel", "isHand", "(I)Z"⟩, 37), (⟨"ClaqueRowModel", "failsIf", "(I)Z"⟩, 37), (⟨"ClaqueRowModel", "isSinger", "(I)Z"⟩, 37), (⟨"ClaqueRowModel", "goes", "()V"⟩, 37), (⟨"ClaqueRowModel", "sits", "(I)V"⟩, 37), (⟨"ClaqueRowModel", "handNoise", "(I)I"⟩, 37)]
theorem lw_r2 : ∀ q ∈ lw_privs_2, lw_okq q := List.forall_mem_cons.mpr ⟨lw_p16, List.forall_mem_cons.mpr ⟨lw_p17, List.forall_mem_cons.mpr ⟨lw_p18, List.forall_mem_cons.mpr ⟨lw_p19, List.forall_mem_cons.mpr ⟨lw_p20, List.forall_mem_cons.mpr ⟨lw_p21, List.forall_mem_cons.mpr ⟨lw_p22, List.forall_mem_cons.mpr ⟨lw_p23, List.forall_mem_cons.mpr ⟨lw_p24, List.forall_mem_cons.mpr ⟨lw_p25, List.forall_mem_cons.mpr ⟨lw_p26, List.forall_mem_cons.mpr ⟨lw_p27, List.forall_mem_cons.mpr ⟨lw_p28, List.forall_mem_cons.mpr ⟨lw_p29, List.forall_mem_cons.mpr ⟨lw_p30, List.forall_mem_cons.mpr ⟨lw_p31, fun _ h => absurd h List.not_mem_nil⟩⟩⟩⟩⟩⟩⟩⟩⟩⟩⟩⟩⟩⟩⟩⟩
theorem lw_p32 : lw_okq (⟨"ClaqueRowModel", "around", "(I)I"⟩, 37) := ⟨⟨by decide +kernel, by decide +kernel⟩, List.mem_of_getElem? (i := 980) (by decide +kernel), List.mem_of_getElem? (i := 1221) (by decide +kernel), List.mem_of_getElem? (i := 1222) (by decide +kernel)⟩
theorem lw_p33 : lw_okq (⟨"ClaqueRowModel", "summed", "()I"⟩, 37) := ⟨⟨by decide +kernel, by decide +kernel⟩, List.mem_of_getElem? (i := 980) (by decide +kernel), List.mem_of_getElem? (i := 1225) (by decide +kernel), List.mem_of_getElem? (i := 1226) (by decide +kernel)⟩
theorem lw_p34 : lw_okq (⟨"ClaqueRowModel", "calling", "()V"⟩, 37) := ⟨⟨by decide +kernel, by decide +kernel⟩, List.mem_of_getElem? (i := 980) (by decide +kernel), List.mem_of_getElem? (i := 1229) (by decide +kernel), List.mem_of_getElem? (i := 1230) (by decide +kernel)⟩
theorem lw_p35 : lw_okq (⟨"ClaqueRowModel", "noisy", "(C)I"⟩, 37) := ⟨⟨by decide +kernel, by decide +kernel⟩, List.mem_of_getElem? (i := 980) (by decide +kernel), List.mem_of_getElem? (i := 1233) (by decide +kernel), List.mem_of_getElem? (i := 1234) (by decide +kernel)⟩
theorem lw_p36 : lw_okq (⟨"ClaqueRowModel", "joiners", "()I"⟩, 37) := ⟨⟨by decide +kernel, by decide +kernel⟩, List.mem_of_getElem? (i := 980) (by decide +kernel), List.mem_of_getElem? (i := 1249) (by decide +kernel), List.mem_of_getElem? (i := 1250) (by decide +kernel)⟩
theorem lw_p37 : lw_okq (⟨"ClaqueRowModel", "planned", "(I)I"⟩, 37) := ⟨⟨by decide +kernel, by decide +kernel⟩, List.mem_of_getElem? (i := 980) (by decide +kernel), List.mem_of_getElem? (i := 1310) (by decide +kernel), List.mem_of_getElem? (i := 1311) (by decide +kernel)⟩
theorem lw_p38 : lw_okq (⟨"ClaqueRowModel", "summed", "(II)I"⟩, 37) := ⟨⟨by decide +kernel, by decide +kernel⟩, List.mem_of_getElem? (i := 980) (by decide +kernel), List.mem_of_getElem? (i := 1314) (by decide +kernel), List.mem_of_getElem? (i := 1315) (by decide +kernel)⟩
theorem lw_p39 : lw_okq (⟨"ClaqueRowModel", "isBetter", "(II)Z"⟩, 37) := ⟨⟨by decide +kernel, by decide +kernel⟩, List.mem_of_getElem? (i := 980) (by decide +kernel), List.mem_of_getElem? (i := 1318) (by decide +kernel), List.mem_of_getElem? (i := 1319) (by decide +kernel)⟩
theorem lw_p40 : lw_okq (⟨"ClaqueRowModel", "payers", "()I"⟩, 37) := ⟨⟨by decide +kernel, by decide +kernel⟩, List.mem_of_getElem? (i := 980) (by decide +kernel), List.mem_of_getElem? (i := 1336) (by decide +kernel), List.mem_of_getElem? (i := 1337) (by decide +kernel)⟩
def lw_privs_3 : List (MethodName × Nat) := [(⟨"ClaqueRowModel", "around", "(I)I"⟩, 37), (⟨"ClaqueRowModel", "summed", "()I"⟩, 37), (⟨"ClaqueRowModel", "calling", "()V"⟩, 37), (⟨"ClaqueRowModel", "noisy", "(C)I"⟩, 37), (⟨"ClaqueRowModel", "joiners", "()I"⟩, 37), (⟨"ClaqueRowModel", "planned", "(I)I"⟩, 37), (⟨"ClaqueRowModel", "summed", "(II)I"⟩, 37), (⟨"ClaqueRowModel", "isBetter", "(II)Z"⟩, 37), (⟨"ClaqueRowModel", "payers", "()I"⟩, 37)]
theorem lw_r3 : ∀ q ∈ lw_privs_3, lw_okq q := List.forall_mem_cons.mpr ⟨lw_p32, List.forall_mem_cons.mpr ⟨lw_p33, List.forall_mem_cons.mpr ⟨lw_p34, List.forall_mem_cons.mpr ⟨lw_p35, List.forall_mem_cons.mpr ⟨lw_p36, List.forall_mem_cons.mpr ⟨lw_p37, List.forall_mem_cons.mpr ⟨lw_p38, List.forall_mem_cons.mpr ⟨lw_p39, List.forall_mem_cons.mpr ⟨lw_p40, fun _ h => absurd h List.not_mem_nil⟩⟩⟩⟩⟩⟩⟩⟩⟩
def lw_privs : List (MethodName × Nat) := lw_privs_1 ++ (lw_privs_2 ++ (lw_privs_3))
def lw_tbl : List Cond := k2_sels lw_privs ++ tables_1
theorem lw_privs_ok : ∀ q ∈ lw_privs, lw_okq q := by
  show ∀ q ∈ lw_privs_1 ++ (lw_privs_2 ++ (lw_privs_3)), lw_okq q
  exact List.forall_mem_append.mpr ⟨lw_r1, List.forall_mem_append.mpr ⟨lw_r2, lw_r3⟩⟩
/-- the streams that the claim lets the run draw from -/
abbrev lw_cs : List Choice := [Jvm.Choice.named "NaN.bits"]
theorem lw_bits : nanBits ∈ lw_cs := by first | decide | exact List.mem_cons_self | simp [lw_cs, nanBits]
/-! ===== BEGIN words of one list among another's, by their places ===== -/
theorem goodIn_r {big : List Cond} (ws : List Cond) (ps : List Nat) (hp : ws = ps.filterMap (fun i => big[i]?)) (h : ws.all goodWord = true) : GoodIn big ws := by
  intro w hw
  have h1 := List.all_eq_true.mp h w hw
  rw [hp] at hw
  obtain ⟨i, -, hi⟩ := List.mem_filterMap.mp hw
  have hm : w ∈ big := by first | exact List.mem_of_getElem? hi | exact List.getElem?_mem hi
  exact ⟨hm, good_of_word h1⟩
theorem goodIn_app {big a b : List Cond} (ha : GoodIn big a) (hb : GoodIn big b) : GoodIn big (a ++ b) := fun w h => (List.mem_append.mp h).elim (ha w) (hb w)
theorem goodIn_ca {big a b : List Cond} {c : Cond} (ha : GoodIn big (c :: a)) (hb : GoodIn big b) : GoodIn big (c :: (a ++ b)) := fun w h => (List.mem_cons.mp h).elim (fun e => ha w (List.mem_cons.mpr (Or.inl e))) (fun h => (List.mem_append.mp h).elim (fun h => ha w (List.mem_cons.mpr (Or.inr h))) (hb w))
theorem goodIn_sub {big ws : List Cond} (hm : ∀ w ∈ ws, w ∈ big) (h : ws.all goodWord = true) : GoodIn big ws := fun w hw => ⟨hm w hw, good_of_word (List.all_eq_true.mp h w hw)⟩
/-! ===== END ===== -/

/-! ===== BEGIN exceptions that leave a method, and their catching by the caller (launches without stack traces) ===== -/
section VXA
/-! The laws vx_back, vx_callV, vx_callS, vx_callSW, vx_throw0, vx_throwS follow proofs of the library, with one case more: JvmDerived/Free/Laws.lean (Back.of_free), Shelf42/LK1.lean (callV, callS), Shelf/KitTraced.lean (throwNew0V, throwNewS). -/
/-- where a method has thrown q: the class by its name, the cell, what was written, the world -/
def vx_T (XC : String → State → State → Prop) (st : State) (q : Addr) (t : State) (mc ms : Nat) (free : Addr → Prop) : Prop :=
  ∃ (E : String) (ce : Cell) (L : List Loc), XC E st t ∧ t.heap[q]? = some ce ∧ ce.vm = .none ∧ st.vm.findClass E = some ce.cls ∧ st.WarmedH t.vm ∧ st.sameButNew ({ t with vm := st.vm } : State) L mc ms ∧ ∀ z ∈ L, free z.base
def vx_Q (Qc : Array Value → State → Outcome → State → Prop) (XC : String → State → State → Prop) (mc ms : Nat) (free : Addr → Prop) : Array Value → State → Outcome → State → Prop := fun a st o t =>
  (Qc a st o t ∧ ∃ L, FrameEnd st o t L mc ms ∧ ∀ q ∈ L, free q.base) ∨ ∃ q, o = .threw q ∧ vx_T XC st q t mc ms free
/-- a callee that returns or throws -/
def vx_Met (l : Launch) (y : MethodName) (ws : List Cond) (rm : Room) (Pc : Array Value → State → Prop) (Qc : Array Value → State → Outcome → State → Prop) (XC : String → State → State → Prop) (mc ms : Nat) (free : Addr → Prop) : Prop :=
  MetFree l y (headSpec ws rm) Pc (fun _ _ _ _ _ => True) (vx_Q Qc XC mc ms free)
def vx_Post (XC : String → State → State → Prop) (mc ms : Nat) (free : Addr → Prop) : Pt → Array Value → Addr → Pt → Prop := fun A a q B =>
  ∃ (g : JFrame) (mk : MethodId) (t : State) (L : List Loc) (E : String) (ce : Cell), B.U.heap = t.heap ∧ B.U.vm = t.vm ∧ XC E (A.U.calling g mk a) t ∧ t.heap[q]? = some ce ∧ ce.vm = .none ∧ A.U.vm.findClass E = some ce.cls ∧ B.locs = A.locs ++ L ∧ (∀ z ∈ L, free z.base) ∧ B.cells = A.cells + mc ∧ B.slots = A.slots + ms
def vx_Back (l : Launch) (R : Room) (p : Program) (e : Env) (below : List Frame) (s : State) (sargs : Array Value) (y : MethodName) (len W9 : Nat)
    (Pre : Pt → Array Value → Prop) (Post : Pt → Array Value → Option Value → Pt → Prop) (PostX : Pt → Array Value → Addr → Pt → Prop) : Prop :=
  ∀ (m : MethodId) (meth : Method) (c : Code) (A : Pt) (g : JFrame) (ig : Instr) (mk : MethodId) (a : Array Value),
    Stand p l e R s m sargs below meth c A.U A.locs A.cells A.slots → g.method = m → g.locals.size = c.maxLocals → decode c.code g.pc = .ok (ig, len) →
    2 * g.monitorRoom + (g.stack.map fun v => v.category).sum ≤ W9 → A.U.methodNamed? y = some mk → Pre A a →
    (∃ (v : Option Value) (B : Pt), Stand p l e R s m sargs below meth c B.U B.locs B.cells B.slots ∧ Post A a v B ∧
      Steps p.tables e below (doInvoke e (A.U.setTop g) [] mk a).1 (B.U.setTop { g with pc := g.pc + len, stack := v.toList ++ g.stack })) ∨
    (∃ (q : Addr) (B : Pt), Stand p l e R s m sargs below meth c B.U B.locs B.cells B.slots ∧ PostX A a q B ∧
      Steps p.tables e below (doInvoke e (A.U.setTop g) [] mk a).1 ((B.U.setTop g).pushFrame (.throwing q)))
section Payer
variable {l : Launch} {R : Room} {p : Program} {e : Env} {below : List Frame} {s : State} {sargs : Array Value} {y : MethodName} {len W9 : Nat}
theorem vx_back {ws : List Cond} {rm : Room} {Pc : Array Value → State → Prop} {Qc : Array Value → State → Outcome → State → Prop} {XC : String → State → State → Prop} {mc ms : Nat} {free : Addr → Prop} {bytes : ByteArray} {maxL : Nat} {ret : Option FieldType}
    (hM : vx_Met l y ws rm Pc Qc XC mc ms free) (hblind : FrameBlind Pc) (hrc : rm.cells = mc) (hrs : rm.slots = ms)
    (hframes : rm.frames + 1 ≤ R.frames) (hlocals : W9 + (maxL + 11) + rm.locals ≤ R.locals)
    (hws : ∀ w ∈ ws, ∀ a' U, s.WarmedH U.vm → w.before a' U = true) (hcode : Cond.code y bytes maxL ret ∈ ws) (hinit : ∀ a' U, s.WarmedH U.vm → (Cond.initialized y.cls).before a' U = true) :
    vx_Back l R p e below s sargs y len W9 (PreOf R mc ms Pc) (PostOf Qc mc ms free) (vx_Post XC mc ms free) := by
  intro m meth c A g ig mk a X hg hsize hdg hW hn hp
  have h1 : (headSpec ws rm).pre.before a A.U = true := atoms_intro fun w hw => hws w hw _ _ X.warmed
  have h2 : (Cond.code y bytes maxL ret).before a A.U = true := hws _ hcode _ _ X.warmed
  have h3 : (Cond.initialized y.cls).before a A.U = true := hinit _ _ X.warmed
  have h4 : A.cells + (headSpec ws rm).room.cells ≤ R.cells := by rw [show (headSpec ws rm).room.cells = mc from hrc]; exact hp.1
  have h5 : A.slots + (headSpec ws rm).room.slots ≤ R.slots := by rw [show (headSpec ws rm).room.slots = ms from hrs]; exact hp.2.1
  have hPc : Pc a (A.U.calling g mk a) := hblind _ _ _ _ hp.2.2
  obtain ⟨U, Ls, c0, s0⟩ := A
  dsimp only [Pt.U, Pt.locs, Pt.cells, Pt.slots] at h1 h2 h3 h4 h5 X hn hPc ⊢
  obtain ⟨methY, cY, hmY, hcY, -, hlY, -, -, -, -⟩ := Cond.code_spec hn h2
  obtain ⟨kY, hkY, -⟩ := className_of_methodNamed hn
  have hinitY : kY.init = .initialized := Cond.initialized_spec (findClass_of_methodNamed hn) hkY h3
  have h : At U g.method c below := by rw [hg]; exact X.here
  have hlocals9 : W9 + (maxL + 11) + (headSpec ws rm).room.locals ≤ R.locals := hlocals
  have happ : (headSpec ws rm).appliesLoose y e.platform (U.calling g mk a) = true :=
    Spec.appliesLoose_calling (g := g) h hdg hn hkY hinitY
      (X.room_calling (g := g) (R' := (headSpec ws rm).room) hsize hmY hcY hframes (by rw [hlY]; omega) h4 h5) h1
  obtain ⟨mid, hmid⟩ := h.above
  have hfr : (U.setTop g).frames = (.java g :: mid) ++ below := by rw [State.frames_setTop' g h.top, hmid]; rfl
  obtain ⟨o, s₂, hsteps, -, hend, hq⟩ := Steps.callFree hM p X.admits X.cas X.clock (acts := []) hfr happ hPc trivial
  have hq' : vx_Q Qc XC mc ms free a (U.calling g mk a) o s₂ := hq
  rw [State.frames_setTop' g h.top] at hend
  obtain ⟨g₀, hg0⟩ := Option.isSome_iff_exists.mp h.top
  obtain ⟨r, hr⟩ := State.topJava?_eq_some.mp hg0
  have hr' : (({ U with heap := s₂.heap, slotsUsed := s₂.slotsUsed } : State).setVm s₂.vm).frames = .java g₀ :: r := hr
  rcases hq' with ⟨hqc, L, hfe, hL⟩ | ⟨q, rfl, E, ce, L, hx, hce, hcv, hcl, hW₂, hsm, hL⟩
  · obtain ⟨⟨v, rfl⟩, hW₂, e2, q2, q3, q4, q5, q6⟩ := id hfe
    have e3 : s₂ = ({ (U.calling g mk a).setFrames s₂.frames with heap := s₂.heap, slotsUsed := s₂.slotsUsed } : State).setVm s₂.vm := by
      have : s₂ = ({ s₂ with vm := (U.calling g mk a).vm } : State).setVm s₂.vm := rfl
      rw [e2] at this
      exact this
    obtain ⟨c₂, i₂, len₂, hc₂, hd₂, hf₂⟩ := hend
    have hW' : U.WarmedH s₂.vm := hW₂
    have hcc : c₂ = c := by
      have h1 : s₂.code? g.method = U.code? g.method := by
        rw [State.code?_eq, State.code?_eq, hW'.alike.method?]
      exact Option.some.inj (hc₂.symm.trans (h1.trans h.code))
    subst hcc
    have hlen : len₂ = len := by rw [hdg] at hd₂; cases hd₂; rfl
    subst hlen
    have hs₂ : s₂ = (({ U with heap := s₂.heap, slotsUsed := s₂.slotsUsed } : State).setVm s₂.vm).setTop { g with pc := g.pc + len₂, stack := v.toList ++ g.stack } := by
      refine e3.trans ?_
      rw [hf₂, State.calling_eq h.top, State.setFrames_setFrames, State.setTop_of_frames _ hr', hr]
      rfl
    have hsame : U.sameButNew ({ U with heap := s₂.heap, slotsUsed := s₂.slotsUsed } : State) L mc ms := by
      refine ⟨?_, q2, q3, q4, q5, q6⟩
      obtain ⟨t, ht, -⟩ := State.frames_cons hr
      show ({ U with heap := s₂.heap, slotsUsed := s₂.slotsUsed } : State) = { U.setFrames U.frames with heap := s₂.heap, slotsUsed := s₂.slotsUsed }
      rw [State.setFrames_self ht]
    subst hg
    refine Or.inl ⟨v, ⟨(({ U with heap := s₂.heap, slotsUsed := s₂.slotsUsed } : State).setVm s₂.vm), Ls ++ L, c0 + mc, s0 + ms⟩,
      ⟨X.admits, X.cas, X.clock, X.frames, X.room, X.hears, X.method, X.code, (X.here.setHeapUsed s₂.heap s₂.slotsUsed).setVm hW'.alike, X.tail, State.WarmedH.trans X.warmed hW', X.limits, X.bytes, X.same.trans (hsame.setVm s.vm)⟩,
      ⟨g, mk, s₂, L, rfl, rfl, hqc, rfl, hL, rfl, rfl⟩, ?_⟩
    show Steps p.tables e below _ ((({ U with heap := s₂.heap, slotsUsed := s₂.slotsUsed } : State).setVm s₂.vm).setTop { g with pc := g.pc + len₂, stack := v.toList ++ g.stack })
    rw [← hs₂]
    exact hsteps
  · obtain ⟨e2, q2, q3, q4, q5, q6⟩ := id hsm
    have e3 : s₂ = ({ (U.calling g mk a).setFrames s₂.frames with heap := s₂.heap, slotsUsed := s₂.slotsUsed } : State).setVm s₂.vm := by
      have : s₂ = ({ s₂ with vm := (U.calling g mk a).vm } : State).setVm s₂.vm := rfl
      rw [e2] at this
      exact this
    have hf₂ : s₂.frames = .throwing q :: .java g :: U.frames.tail := hend
    have hW' : U.WarmedH s₂.vm := hW₂
    have hs₂ : s₂ = ((({ U with heap := s₂.heap, slotsUsed := s₂.slotsUsed } : State).setVm s₂.vm).setTop g).pushFrame (.throwing q) := by
      refine e3.trans ?_
      rw [hf₂, State.calling_eq h.top, State.setFrames_setFrames, State.pushFrame, State.frames_setTop _ hr', State.setTop_of_frames _ hr', State.setFrames_setFrames, hr]
      rfl
    have hsame : U.sameButNew ({ U with heap := s₂.heap, slotsUsed := s₂.slotsUsed } : State) L mc ms := by
      refine ⟨?_, q2, q3, q4, q5, q6⟩
      obtain ⟨t, ht, -⟩ := State.frames_cons hr
      show ({ U with heap := s₂.heap, slotsUsed := s₂.slotsUsed } : State) = { U.setFrames U.frames with heap := s₂.heap, slotsUsed := s₂.slotsUsed }
      rw [State.setFrames_self ht]
    subst hg
    refine Or.inr ⟨q, ⟨(({ U with heap := s₂.heap, slotsUsed := s₂.slotsUsed } : State).setVm s₂.vm), Ls ++ L, c0 + mc, s0 + ms⟩,
      ⟨X.admits, X.cas, X.clock, X.frames, X.room, X.hears, X.method, X.code, (X.here.setHeapUsed s₂.heap s₂.slotsUsed).setVm hW'.alike, X.tail, State.WarmedH.trans X.warmed hW', X.limits, X.bytes, X.same.trans (hsame.setVm s.vm)⟩,
      ⟨g, mk, s₂, L, E, ce, rfl, rfl, hx, hce, hcv, hcl, rfl, hL, rfl, rfl⟩, ?_⟩
    show Steps p.tables e below _ (((({ U with heap := s₂.heap, slotsUsed := s₂.slotsUsed } : State).setVm s₂.vm).setTop g).pushFrame (.throwing q))
    rw [← hs₂]
    exact hsteps
end Payer
section Calls
variable {p : Program} {l : Launch} {e : Env} {R : Room} {s : State} {m : MethodId} {args : Array Value} {below : List Frame} {meth : Method} {c : Code} {T : State} {locs : List Loc} {cells slots : Nat}
theorem vx_callV (X : Stand p l e R s m args below meth c T locs cells slots) (hexec : p.tables.exec = Jvm.exec) {own C : String} {index : Nat} {y : MethodName} {bytes : ByteArray} {maxL : Nat} {ret : Option FieldType}
    (hown : s.vm.findClass own = some m.cls) (hlink : (Cond.methodLink own index y).before args s = true) (hinst : (Cond.instanceMethod y).before args s = true) (hsel : (Cond.selects C y y).before args s = true)
    (hcode : (Cond.code y bytes maxL ret).before args s = true) (hy : y.cls ≠ "java/lang/invoke/MethodHandle" ∧ y.cls ≠ "java/lang/invoke/VarHandle")
    {W9 : Nat} {Pre : Pt → Array Value → Prop} {Post : Pt → Array Value → Option Value → Pt → Prop} {PostX : Pt → Array Value → Addr → Pt → Prop} (hK : vx_Back l R p e below s args y 3 W9 Pre Post PostX)
    {b : Addr} {cellB : Cell} (hcell : T.heap[b]? = some cellB) (hobj : cellB.vm.isStatics = false) (hcls : s.vm.findClass C = some cellB.cls)
    {g : JFrame} (hg : g.method = m) (hsize : g.locals.size = c.maxLocals) {argsL rest : List Value} (hlen : ∀ sig, parseMethodDescriptor y.desc = some sig → argsL.length = sig.parameters.length)
    (hstack : g.stack = argsL.reverse ++ .ref b :: rest) (hW : 2 * g.monitorRoom + (rest.map fun v => v.category).sum ≤ W9) (hdg : decode c.code g.pc = .ok (.invokevirtual index, 3))
    (hpre : ∀ vm₁, s.WarmedH vm₁ → Pre ⟨T.setVm vm₁, locs, cells, slots⟩ (Value.ref b :: argsL).toArray) :
    (∃ (v : Option Value) (vm₁ : Vm) (B : Pt), s.WarmedH vm₁ ∧ Stand p l e R s m args below meth c B.U B.locs B.cells B.slots ∧ Post ⟨T.setVm vm₁, locs, cells, slots⟩ (Value.ref b :: argsL).toArray v B ∧
      ∀ target, Steps p.tables e below (B.U.setTop { g with pc := g.pc + 3, stack := v.toList ++ rest }) target → Steps p.tables e below (T.setTop g) target) ∨
    (∃ (q : Addr) (vm₁ : Vm) (B : Pt), s.WarmedH vm₁ ∧ Stand p l e R s m args below meth c B.U B.locs B.cells B.slots ∧ PostX ⟨T.setVm vm₁, locs, cells, slots⟩ (Value.ref b :: argsL).toArray q B ∧
      Steps p.tables e below (T.setTop g) ((B.U.setTop { g with stack := rest }).pushFrame (.throwing q))) := by
  obtain ⟨mk, methM, hnamed, hmethM, hstM, habM⟩ := Cond.instanceMethod_spec hinst
  obtain ⟨methM', cM, hmethM', -, -, -, -, -, -, hsigM⟩ := Cond.code_spec hnamed hcode
  cases hmethM.symm.trans hmethM'
  obtain ⟨c2, r2, m2, q1, q2, q3, q4, kP, hkP, hkPi⟩ := Cond.selects_spec hsel
  cases hcls.symm.trans q1
  cases (State.methodFound?_of_named hnamed hy).symm.trans q2
  cases hnamed.symm.trans q3
  have hselP : selectMethod e.platform s.vm cellB.cls mk = .method mk := by rw [Launch.admits_selectMethod X.admits]; exact q4
  obtain ⟨vm₁, X₁, hstep₁⟩ := X.invokevirtual hexec hown hlink hnamed hmethM hstM hkP hkPi hy (a := b) (cell := cellB) hcell
    (fun z h => by rw [h] at hobj; cases hobj) hselP hmethM habM hkP hkPi (g := g) hg (argsL := argsL) (rest := rest) (hlen _ hsigM) hstack hdg
  rcases hK m meth c ⟨T.setVm vm₁, locs, cells, slots⟩ { g with stack := rest } (.invokevirtual index) mk (Value.ref b :: argsL).toArray X₁ hg hsize hdg hW (X₁.named hnamed) (hpre vm₁ X₁.warmed) with ⟨v, B, X', hpost, hsteps⟩ | ⟨q, B, X', hpost, hsteps⟩
  · exact Or.inl ⟨v, vm₁, B, X₁.warmed, X', hpost, fun target h => hstep₁ _ fun acts => by rw [doInvoke_state]; exact hsteps.trans h⟩
  · exact Or.inr ⟨q, vm₁, B, X₁.warmed, X', hpost, hstep₁ _ fun acts => by rw [doInvoke_state]; exact hsteps⟩
theorem vx_callS (X : Stand p l e R s m args below meth c T locs cells slots) (hexec : p.tables.exec = Jvm.exec) {own : String} {index : Nat} {y : MethodName} {bytes : ByteArray} {maxL : Nat} {ret : Option FieldType}
    (hown : s.vm.findClass own = some m.cls) (hlink : (Cond.methodLink own index y).before args s = true) (hstat : (Cond.static y).before args s = true) (hinit : (Cond.initialized y.cls).before args s = true)
    (hcode : (Cond.code y bytes maxL ret).before args s = true) (hy : y.cls ≠ "java/lang/invoke/MethodHandle" ∧ y.cls ≠ "java/lang/invoke/VarHandle")
    {W9 : Nat} {Pre : Pt → Array Value → Prop} {Post : Pt → Array Value → Option Value → Pt → Prop} {PostX : Pt → Array Value → Addr → Pt → Prop} (hK : vx_Back l R p e below s args y 3 W9 Pre Post PostX)
    {g : JFrame} (hg : g.method = m) (hsize : g.locals.size = c.maxLocals) {argsL rest : List Value} (hlen : ∀ sig, parseMethodDescriptor y.desc = some sig → argsL.length = sig.parameters.length)
    (hstack : g.stack = argsL.reverse ++ rest) (hW : 2 * g.monitorRoom + (rest.map fun v => v.category).sum ≤ W9) (hdg : decode c.code g.pc = .ok (.invokestatic index, 3))
    (hpre : ∀ vm₁, s.WarmedH vm₁ → Pre ⟨T.setVm vm₁, locs, cells, slots⟩ argsL.toArray) :
    (∃ (v : Option Value) (vm₁ : Vm) (B : Pt), s.WarmedH vm₁ ∧ Stand p l e R s m args below meth c B.U B.locs B.cells B.slots ∧ Post ⟨T.setVm vm₁, locs, cells, slots⟩ argsL.toArray v B ∧
      ∀ target, Steps p.tables e below (B.U.setTop { g with pc := g.pc + 3, stack := v.toList ++ rest }) target → Steps p.tables e below (T.setTop g) target) ∨
    (∃ (q : Addr) (vm₁ : Vm) (B : Pt), s.WarmedH vm₁ ∧ Stand p l e R s m args below meth c B.U B.locs B.cells B.slots ∧ PostX ⟨T.setVm vm₁, locs, cells, slots⟩ argsL.toArray q B ∧
      Steps p.tables e below (T.setTop g) ((B.U.setTop { g with stack := rest }).pushFrame (.throwing q))) := by
  obtain ⟨mk, hnamed⟩ := Cond.code_named hcode
  obtain ⟨methM, cM, hmethM, -, -, -, -, -, -, hsigM⟩ := Cond.code_spec hnamed hcode
  have hstatic : methM.isStatic = true := Cond.static_spec hnamed hmethM hstat
  obtain ⟨kP, hkP, -⟩ := className_of_methodNamed hnamed
  have hinitP : kP.init = .initialized := Cond.initialized_spec (findClass_of_methodNamed hnamed) hkP hinit
  obtain ⟨vm₁, X₁, hstep₁⟩ := X.invokestatic hexec hown hlink hnamed hmethM hstatic hkP hinitP hy (g := g) hg (argsL := argsL) (rest := rest) (hlen _ hsigM) hstack hdg
  rcases hK m meth c ⟨T.setVm vm₁, locs, cells, slots⟩ { g with stack := rest } (.invokestatic index) mk argsL.toArray X₁ hg hsize hdg hW (X₁.named hnamed) (hpre vm₁ X₁.warmed) with ⟨v, B, X', hpost, hsteps⟩ | ⟨q, B, X', hpost, hsteps⟩
  · exact Or.inl ⟨v, vm₁, B, X₁.warmed, X', hpost, fun target h => hstep₁ _ fun acts => by rw [doInvoke_state]; exact hsteps.trans h⟩
  · exact Or.inr ⟨q, vm₁, B, X₁.warmed, X', hpost, hstep₁ _ fun acts => by rw [doInvoke_state]; exact hsteps⟩
end Calls
theorem vx_cls {s : State} {T : State} {vm₁ : Vm} {E : String} {k : ClassId} (hW : s.WarmedH vm₁) (h : (T.setVm vm₁).vm.findClass E = some k) : s.vm.findClass E = some k := by
  have h1 : vm₁.findClass E = some k := h
  rw [hW.alike.findClass] at h1
  exact h1
/-- the method's frame g, with q thrown over it -/
def vx_W (p : Program) (l : Launch) (e : Env) (R : Room) (s : State) (m : MethodId) (args : Array Value) (below : List Frame) (meth : Method) (c : Code) (H : Heap) (locs : List Loc) (cells slots : Nat) (Q : State → Prop) (g : JFrame) (q : Addr) : Prop :=
  ∀ T : State, T.heap = H → Stand p l e R s m args below meth c T locs cells slots → ∃ t, Steps p.tables e below ((T.setTop g).pushFrame (.throwing q)) t ∧ Q t
def vx_Run (p : Program) (l : Launch) (e : Env) (R : Room) (s : State) (m : MethodId) (args : Array Value) (below : List Frame) (meth : Method) (c : Code) (H : Heap) (locs : List Loc) (cells slots mc ms : Nat) (g : JFrame) (rest : List Value) (Qa : State → Outcome → State → Prop) (XC : String → State → State → Prop) (free : Addr → Prop) : Prop :=
  ∀ T : State, T.heap = H → Stand p l e R s m args below meth c T locs cells slots →
    (∃ (v : Option Value) (st₀ t T' : State) (L : List Loc), st₀.heap = H ∧ Stand p l e R s m args below meth c T' (locs ++ L) (cells + mc) (slots + ms) ∧ (∀ q ∈ L, free q.base) ∧ T'.heap = t.heap ∧ T'.vm = t.vm ∧ Qa st₀ (.returned v) t ∧
      Goes p e below T g T' { g with pc := g.pc + 3, stack := v.toList ++ rest }) ∨
    (∃ (q : Addr) (st₀ t T' : State) (L : List Loc) (E : String) (ce : Cell), st₀.heap = H ∧ Stand p l e R s m args below meth c T' (locs ++ L) (cells + mc) (slots + ms) ∧ (∀ z ∈ L, free z.base) ∧ T'.heap = t.heap ∧ T'.vm = t.vm ∧ XC E st₀ t ∧ t.heap[q]? = some ce ∧ ce.vm = .none ∧ s.vm.findClass E = some ce.cls ∧
      Steps p.tables e below (T.setTop g) ((T'.setTop { g with stack := rest }).pushFrame (.throwing q)))
def vx_X {S : Type} (px : S → Prop) (B : String → S → State → Prop) (A : Nat → Prop) : String → State → State → Prop := fun E st t => ∃ u : S, px u ∧ B E u t ∧ va_F A st t
section Runs
variable {p : Program} {l : Launch} {e : Env} {R : Room} {s : State} {m : MethodId} {args : Array Value} {below : List Frame} {meth : Method} {c : Code} {H : Heap} {locs : List Loc} {cells slots : Nat}
variable {y : MethodName} {bytes cc : ByteArray} {maxL nL mc ms n index : Nat} {ret : Option FieldType} {ws : List Cond} {rm : Room} {Pc : Array Value → State → Prop} {Qc : Array Value → State → Outcome → State → Prop} {XC : String → State → State → Prop} {free : Addr → Prop} {Ts : List Cond} {own C : String} {b : Addr} {As rest : List Value} {g : JFrame}
theorem vx_callBack (cb : CallB R s args own index y bytes maxL ret ws rm mc ms n) (hM : vx_Met l y ws rm Pc Qc XC mc ms free) (hbl : FrameBlind Pc) : vx_Back l R p e below s args y 3 8 (PreOf R mc ms Pc) (PostOf Qc mc ms free) (vx_Post XC mc ms free) := by
  obtain ⟨hrc, hrs, hfr, hlo, hws, hcw, -, hini, -⟩ := cb
  exact vx_back (bytes := bytes) (maxL := maxL) (ret := ret) hM hbl hrc hrs hfr hlo hws hcw (fun a' U hW => word_at hW (Or.inl (by first | rfl | simp [Cond.onTables, Cond.keeps, Cond.steady])) hini)
theorem vx_runV (S : CallFix p m c cc nL s args Ts own) (hM : vx_Met l y ws rm Pc Qc XC mc ms free) (cw : CallW R s args own C index y bytes maxL ret ws rm mc ms n) (hp : PreV s H C b Pc As)
    (hg : g.method = m) (hn : As.length = n) (hsize : g.locals.size = nL) (hstack : g.stack = As.reverse ++ .ref b :: rest) (hW : 2 * g.monitorRoom + (rest.map fun v => v.category).sum ≤ 8) (hdg : decode cc g.pc = .ok (.invokevirtual index, 3)) (hf : cells + mc ≤ R.cells ∧ slots + ms ≤ R.slots) :
    vx_Run p l e R s m args below meth c H locs cells slots mc ms g rest (Qc (Value.ref b :: As).toArray) XC free := by
  have hK : vx_Back l R p e below s args y 3 8 (PreOf R mc ms Pc) (PostOf Qc mc ms free) (vx_Post XC mc ms free) := vx_callBack cw.1 hM hp.1
  obtain ⟨⟨-, -, -, -, -, -, hcode, -, hy, hlen, hl⟩, hin, hse⟩ := cw
  obtain ⟨hx, hb, hml, ho, -⟩ := S
  obtain ⟨-, ⟨cellB, hcB, hoB, hclB⟩, hPc⟩ := hp
  intro T hT X
  rcases vx_callV X hx (C := C) (bytes := bytes) (maxL := maxL) (ret := ret) ho hl hin hse hcode hy hK (by rw [hT]; exact hcB) hoB hclB hg (hsize.trans hml.symm) (argsL := As) (rest := rest) (fun sig h => hn.trans (hlen sig h)) hstack hW (by rw [hb]; exact hdg)
    (fun vm₁ hW₁ => ⟨hf.1, hf.2, hPc (T.setVm vm₁) hT hW₁⟩) with ⟨v, vm₁, ⟨U', l2, c2, s2⟩, hW₁, X', ⟨g', mk, t, L, e1, e2, hq, h1, hL, h2, h3⟩, st⟩ | ⟨q, vm₁, ⟨U', l2, c2, s2⟩, hW₁, X', ⟨g', mk, t, L, E, ce, e1, e2, hq, hce, hcv, hcl, h1, hL, h2, h3⟩, st⟩
  · dsimp only [Pt.U, Pt.locs, Pt.cells, Pt.slots] at X' e1 e2 h1 h2 h3 st
    subst h1; subst h2; subst h3
    exact Or.inl ⟨v, (T.setVm vm₁).calling g' mk (Value.ref b :: As).toArray, t, U', L, hT, X', hL, e1, e2, hq, st⟩
  · dsimp only [Pt.U, Pt.locs, Pt.cells, Pt.slots] at X' e1 e2 h1 h2 h3 st hcl
    subst h1; subst h2; subst h3
    exact Or.inr ⟨q, (T.setVm vm₁).calling g' mk (Value.ref b :: As).toArray, t, U', L, E, ce, hT, X', hL, e1, e2, hq, hce, hcv, vx_cls hW₁ hcl, st⟩
theorem vx_runS (S : CallFix p m c cc nL s args Ts own) (hM : vx_Met l y ws rm Pc Qc XC mc ms free) (cw : CallB R s args own index y bytes maxL ret ws rm mc ms n ∧ (Cond.static y).before args s = true) (hp : PreS s H Pc As)
    (hg : g.method = m) (hn : As.length = n) (hsize : g.locals.size = nL) (hstack : g.stack = As.reverse ++ rest) (hW : 2 * g.monitorRoom + (rest.map fun v => v.category).sum ≤ 8) (hdg : decode cc g.pc = .ok (.invokestatic index, 3)) (hf : cells + mc ≤ R.cells ∧ slots + ms ≤ R.slots) :
    vx_Run p l e R s m args below meth c H locs cells slots mc ms g rest (Qc As.toArray) XC free := by
  have hK : vx_Back l R p e below s args y 3 8 (PreOf R mc ms Pc) (PostOf Qc mc ms free) (vx_Post XC mc ms free) := vx_callBack cw.1 hM hp.1
  obtain ⟨⟨-, -, -, -, -, -, hcode, hini, hy, hlen, hl⟩, hstt⟩ := cw
  obtain ⟨hx, hb, hml, ho, -⟩ := S
  intro T hT X
  rcases vx_callS X hx (bytes := bytes) (maxL := maxL) (ret := ret) ho hl hstt hini hcode hy hK hg (hsize.trans hml.symm) (argsL := As) (rest := rest) (fun sig h => hn.trans (hlen sig h)) hstack hW (by rw [hb]; exact hdg)
    (fun vm₁ hW₁ => ⟨hf.1, hf.2, hp.2 (T.setVm vm₁) hT hW₁⟩) with ⟨v, vm₁, ⟨U', l2, c2, s2⟩, hW₁, X', ⟨g', mk, t, L, e1, e2, hq, h1, hL, h2, h3⟩, st⟩ | ⟨q, vm₁, ⟨U', l2, c2, s2⟩, hW₁, X', ⟨g', mk, t, L, E, ce, e1, e2, hq, hce, hcv, hcl, h1, hL, h2, h3⟩, st⟩
  · dsimp only [Pt.U, Pt.locs, Pt.cells, Pt.slots] at X' e1 e2 h1 h2 h3 st
    subst h1; subst h2; subst h3
    exact Or.inl ⟨v, (T.setVm vm₁).calling g' mk As.toArray, t, U', L, hT, X', hL, e1, e2, hq, st⟩
  · dsimp only [Pt.U, Pt.locs, Pt.cells, Pt.slots] at X' e1 e2 h1 h2 h3 st hcl
    subst h1; subst h2; subst h3
    exact Or.inr ⟨q, (T.setVm vm₁).calling g' mk As.toArray, t, U', L, E, ce, hT, X', hL, e1, e2, hq, hce, hcv, vx_cls hW₁ hcl, st⟩
end Runs
section Rows
variable {p : Program} {l : Launch} {e : Env} {R : Room} {s : State} {m : MethodId} {args : Array Value} {below : List Frame} {meth : Method} {c : Code} {H : Heap} {locs : List Loc} {cells slots : Nat} {Q : State → Prop}
variable {mc ms : Nat} {free : Addr → Prop} {A0 A1 : Nat → Prop} {H0 : Heap} {a : Array Value} {pc : Nat} {ls : Array Slot} {st0 rest : List Value}
theorem vx_keep {st₀ t T' : State} {L : List Loc} (h0 : st₀.heap = H) (e1 : T'.heap = t.heap) (hS : va_S A0 H0 H locs) (hA : ∀ q, q < H.size → A1 q → A0 q) (hf : ∀ q, free q → A0 q) (hL : ∀ q ∈ L, free q.base) (hF : va_F A1 st₀ t) :
    H.size ≤ T'.heap.size ∧ (∀ q : Nat, q < H.size → ¬ A1 q → T'.heap[q]? = H[q]?) ∧ va_S A0 H0 T'.heap (locs ++ L) := by
  obtain ⟨hz, hk⟩ := hF
  rw [h0] at hz hk
  exact ⟨by rw [e1]; exact hz, fun q h1 h2 => by rw [e1]; exact hk q h1 h2,
    ⟨Nat.le_trans hS.1 (by rw [e1]; exact hz), fun q h1 h2 => by rw [e1, hk q (Nat.lt_of_lt_of_le h1 hS.1) (fun z => h2 (hA q (Nat.lt_of_lt_of_le h1 hS.1) z))]; exact hS.2.1 q h1 h2, fun q hq => by
      rcases List.mem_append.mp hq with h | h
      · exact hS.2.2 q h
      · exact hf _ (hL q h)⟩⟩
theorem vx_calli {S SX : Type} {post : Int32 → S → Prop} {px : SX → Prop} {B : S → State → Prop} {BX : String → SX → State → Prop} {AX : Nat → Prop} (hr : vx_Run p l e R s m args below meth c H locs cells slots mc ms (F0 m pc ls st0) rest (va_Qi post B A1 a) (vx_X px BX AX) free) (hS : va_S A0 H0 H locs) (hA : ∀ q, q < H.size → A1 q → A0 q) (hf : ∀ q, free q → A0 q) (hAX : ∀ q, q < H.size → AX q → A0 q)
    (kx : ∀ (E : String) (ce : Cell) (q9 : Addr) (u : SX) (t : State) (H1 : Heap) (locs1 : List Loc), t.heap = H1 → s.vm.Alike t.vm → px u → BX E u t → H.size ≤ H1.size → (∀ q : Nat, q < H.size → ¬ AX q → H1[q]? = H[q]?) → va_S A0 H0 H1 locs1 → H1[q9]? = some ce → ce.vm = .none → s.vm.findClass E = some ce.cls → vx_W p l e R s m args below meth c H1 locs1 (cells + mc) (slots + ms) Q (F0 m pc ls rest) q9)
    (kk : ∀ (r : Int32) (u : S) (t : State) (H1 : Heap) (locs1 : List Loc), t.heap = H1 → s.vm.Alike t.vm → post r u → B u t → H.size ≤ H1.size → (∀ q : Nat, q < H.size → ¬ A1 q → H1[q]? = H[q]?) → va_S A0 H0 H1 locs1 → W p l e R s m args below meth c H1 locs1 (cells + mc) (slots + ms) Q (F0 m (pc + 3) ls (.int r :: rest))) : W p l e R s m args below meth c H locs cells slots Q (F0 m pc ls st0) := by
  intro T hT X
  rcases hr T hT X with ⟨v, st₀, t, T', L, h0, X', hL, e1, e2, ⟨⟨r, u, hv, hp, hb⟩, hF⟩, st⟩ | ⟨q, st₀, t, T', L, E, ce, h0, X', hL, e1, e2, ⟨u, hp, hb, hF⟩, hce, hcv, hcl, st⟩
  · cases hv
    obtain ⟨k1, k2, k3⟩ := vx_keep h0 e1 hS hA hf hL hF
    obtain ⟨t2, a1, b1⟩ := kk r u t T'.heap (locs ++ L) e1.symm (by rw [← e2]; exact X'.warmed.alike) hp hb k1 k2 k3 T' rfl X'
    exact ⟨t2, st t2 a1, b1⟩
  · obtain ⟨k1, k2, k3⟩ := vx_keep h0 e1 hS hAX hf hL hF
    obtain ⟨t2, a1, b1⟩ := kx E ce q u t T'.heap (locs ++ L) e1.symm (by rw [← e2]; exact X'.warmed.alike) hp hb k1 k2 k3 (by rw [e1]; exact hce) hcv hcl T' rfl X'
    exact ⟨t2, st.trans a1, b1⟩
theorem vx_calll {S SX : Type} {post : Int64 → S → Prop} {px : SX → Prop} {B : S → State → Prop} {BX : String → SX → State → Prop} {AX : Nat → Prop} (hr : vx_Run p l e R s m args below meth c H locs cells slots mc ms (F0 m pc ls st0) rest (va_Ql post B A1 a) (vx_X px BX AX) free) (hS : va_S A0 H0 H locs) (hA : ∀ q, q < H.size → A1 q → A0 q) (hf : ∀ q, free q → A0 q) (hAX : ∀ q, q < H.size → AX q → A0 q)
    (kx : ∀ (E : String) (ce : Cell) (q9 : Addr) (u : SX) (t : State) (H1 : Heap) (locs1 : List Loc), t.heap = H1 → s.vm.Alike t.vm → px u → BX E u t → H.size ≤ H1.size → (∀ q : Nat, q < H.size → ¬ AX q → H1[q]? = H[q]?) → va_S A0 H0 H1 locs1 → H1[q9]? = some ce → ce.vm = .none → s.vm.findClass E = some ce.cls → vx_W p l e R s m args below meth c H1 locs1 (cells + mc) (slots + ms) Q (F0 m pc ls rest) q9)
    (kk : ∀ (r : Int64) (u : S) (t : State) (H1 : Heap) (locs1 : List Loc), t.heap = H1 → s.vm.Alike t.vm → post r u → B u t → H.size ≤ H1.size → (∀ q : Nat, q < H.size → ¬ A1 q → H1[q]? = H[q]?) → va_S A0 H0 H1 locs1 → W p l e R s m args below meth c H1 locs1 (cells + mc) (slots + ms) Q (F0 m (pc + 3) ls (.long r :: rest))) : W p l e R s m args below meth c H locs cells slots Q (F0 m pc ls st0) := by
  intro T hT X
  rcases hr T hT X with ⟨v, st₀, t, T', L, h0, X', hL, e1, e2, ⟨⟨r, u, hv, hp, hb⟩, hF⟩, st⟩ | ⟨q, st₀, t, T', L, E, ce, h0, X', hL, e1, e2, ⟨u, hp, hb, hF⟩, hce, hcv, hcl, st⟩
  · cases hv
    obtain ⟨k1, k2, k3⟩ := vx_keep h0 e1 hS hA hf hL hF
    obtain ⟨t2, a1, b1⟩ := kk r u t T'.heap (locs ++ L) e1.symm (by rw [← e2]; exact X'.warmed.alike) hp hb k1 k2 k3 T' rfl X'
    exact ⟨t2, st t2 a1, b1⟩
  · obtain ⟨k1, k2, k3⟩ := vx_keep h0 e1 hS hAX hf hL hF
    obtain ⟨t2, a1, b1⟩ := kx E ce q u t T'.heap (locs ++ L) e1.symm (by rw [← e2]; exact X'.warmed.alike) hp hb k1 k2 k3 (by rw [e1]; exact hce) hcv hcl T' rfl X'
    exact ⟨t2, st.trans a1, b1⟩
theorem vx_callf {S SX : Type} {post : UInt32 → S → Prop} {px : SX → Prop} {B : S → State → Prop} {BX : String → SX → State → Prop} {AX : Nat → Prop} (hr : vx_Run p l e R s m args below meth c H locs cells slots mc ms (F0 m pc ls st0) rest (va_Qf post B A1 a) (vx_X px BX AX) free) (hS : va_S A0 H0 H locs) (hA : ∀ q, q < H.size → A1 q → A0 q) (hf : ∀ q, free q → A0 q) (hAX : ∀ q, q < H.size → AX q → A0 q)
    (kx : ∀ (E : String) (ce : Cell) (q9 : Addr) (u : SX) (t : State) (H1 : Heap) (locs1 : List Loc), t.heap = H1 → s.vm.Alike t.vm → px u → BX E u t → H.size ≤ H1.size → (∀ q : Nat, q < H.size → ¬ AX q → H1[q]? = H[q]?) → va_S A0 H0 H1 locs1 → H1[q9]? = some ce → ce.vm = .none → s.vm.findClass E = some ce.cls → vx_W p l e R s m args below meth c H1 locs1 (cells + mc) (slots + ms) Q (F0 m pc ls rest) q9)
    (kk : ∀ (r : UInt32) (u : S) (t : State) (H1 : Heap) (locs1 : List Loc), t.heap = H1 → s.vm.Alike t.vm → post r u → B u t → H.size ≤ H1.size → (∀ q : Nat, q < H.size → ¬ A1 q → H1[q]? = H[q]?) → va_S A0 H0 H1 locs1 → W p l e R s m args below meth c H1 locs1 (cells + mc) (slots + ms) Q (F0 m (pc + 3) ls (.float r :: rest))) : W p l e R s m args below meth c H locs cells slots Q (F0 m pc ls st0) := by
  intro T hT X
  rcases hr T hT X with ⟨v, st₀, t, T', L, h0, X', hL, e1, e2, ⟨⟨r, u, hv, hp, hb⟩, hF⟩, st⟩ | ⟨q, st₀, t, T', L, E, ce, h0, X', hL, e1, e2, ⟨u, hp, hb, hF⟩, hce, hcv, hcl, st⟩
  · cases hv
    obtain ⟨k1, k2, k3⟩ := vx_keep h0 e1 hS hA hf hL hF
    obtain ⟨t2, a1, b1⟩ := kk r u t T'.heap (locs ++ L) e1.symm (by rw [← e2]; exact X'.warmed.alike) hp hb k1 k2 k3 T' rfl X'
    exact ⟨t2, st t2 a1, b1⟩
  · obtain ⟨k1, k2, k3⟩ := vx_keep h0 e1 hS hAX hf hL hF
    obtain ⟨t2, a1, b1⟩ := kx E ce q u t T'.heap (locs ++ L) e1.symm (by rw [← e2]; exact X'.warmed.alike) hp hb k1 k2 k3 (by rw [e1]; exact hce) hcv hcl T' rfl X'
    exact ⟨t2, st.trans a1, b1⟩
theorem vx_calld {S SX : Type} {post : UInt64 → S → Prop} {px : SX → Prop} {B : S → State → Prop} {BX : String → SX → State → Prop} {AX : Nat → Prop} (hr : vx_Run p l e R s m args below meth c H locs cells slots mc ms (F0 m pc ls st0) rest (va_Qd post B A1 a) (vx_X px BX AX) free) (hS : va_S A0 H0 H locs) (hA : ∀ q, q < H.size → A1 q → A0 q) (hf : ∀ q, free q → A0 q) (hAX : ∀ q, q < H.size → AX q → A0 q)
    (kx : ∀ (E : String) (ce : Cell) (q9 : Addr) (u : SX) (t : State) (H1 : Heap) (locs1 : List Loc), t.heap = H1 → s.vm.Alike t.vm → px u → BX E u t → H.size ≤ H1.size → (∀ q : Nat, q < H.size → ¬ AX q → H1[q]? = H[q]?) → va_S A0 H0 H1 locs1 → H1[q9]? = some ce → ce.vm = .none → s.vm.findClass E = some ce.cls → vx_W p l e R s m args below meth c H1 locs1 (cells + mc) (slots + ms) Q (F0 m pc ls rest) q9)
    (kk : ∀ (r : UInt64) (u : S) (t : State) (H1 : Heap) (locs1 : List Loc), t.heap = H1 → s.vm.Alike t.vm → post r u → B u t → H.size ≤ H1.size → (∀ q : Nat, q < H.size → ¬ A1 q → H1[q]? = H[q]?) → va_S A0 H0 H1 locs1 → W p l e R s m args below meth c H1 locs1 (cells + mc) (slots + ms) Q (F0 m (pc + 3) ls (.double r :: rest))) : W p l e R s m args below meth c H locs cells slots Q (F0 m pc ls st0) := by
  intro T hT X
  rcases hr T hT X with ⟨v, st₀, t, T', L, h0, X', hL, e1, e2, ⟨⟨r, u, hv, hp, hb⟩, hF⟩, st⟩ | ⟨q, st₀, t, T', L, E, ce, h0, X', hL, e1, e2, ⟨u, hp, hb, hF⟩, hce, hcv, hcl, st⟩
  · cases hv
    obtain ⟨k1, k2, k3⟩ := vx_keep h0 e1 hS hA hf hL hF
    obtain ⟨t2, a1, b1⟩ := kk r u t T'.heap (locs ++ L) e1.symm (by rw [← e2]; exact X'.warmed.alike) hp hb k1 k2 k3 T' rfl X'
    exact ⟨t2, st t2 a1, b1⟩
  · obtain ⟨k1, k2, k3⟩ := vx_keep h0 e1 hS hAX hf hL hF
    obtain ⟨t2, a1, b1⟩ := kx E ce q u t T'.heap (locs ++ L) e1.symm (by rw [← e2]; exact X'.warmed.alike) hp hb k1 k2 k3 (by rw [e1]; exact hce) hcv hcl T' rfl X'
    exact ⟨t2, st.trans a1, b1⟩
theorem vx_callv {S SX : Type} {post : S → Prop} {px : SX → Prop} {B : S → State → Prop} {BX : String → SX → State → Prop} {AX : Nat → Prop} (hr : vx_Run p l e R s m args below meth c H locs cells slots mc ms (F0 m pc ls st0) rest (va_Qv post B A1 a) (vx_X px BX AX) free) (hS : va_S A0 H0 H locs) (hA : ∀ q, q < H.size → A1 q → A0 q) (hf : ∀ q, free q → A0 q) (hAX : ∀ q, q < H.size → AX q → A0 q)
    (kx : ∀ (E : String) (ce : Cell) (q9 : Addr) (u : SX) (t : State) (H1 : Heap) (locs1 : List Loc), t.heap = H1 → s.vm.Alike t.vm → px u → BX E u t → H.size ≤ H1.size → (∀ q : Nat, q < H.size → ¬ AX q → H1[q]? = H[q]?) → va_S A0 H0 H1 locs1 → H1[q9]? = some ce → ce.vm = .none → s.vm.findClass E = some ce.cls → vx_W p l e R s m args below meth c H1 locs1 (cells + mc) (slots + ms) Q (F0 m pc ls rest) q9)
    (kk : ∀ (u : S) (t : State) (H1 : Heap) (locs1 : List Loc), t.heap = H1 → s.vm.Alike t.vm → post u → B u t → H.size ≤ H1.size → (∀ q : Nat, q < H.size → ¬ A1 q → H1[q]? = H[q]?) → va_S A0 H0 H1 locs1 → W p l e R s m args below meth c H1 locs1 (cells + mc) (slots + ms) Q (F0 m (pc + 3) ls (rest))) : W p l e R s m args below meth c H locs cells slots Q (F0 m pc ls st0) := by
  intro T hT X
  rcases hr T hT X with ⟨v, st₀, t, T', L, h0, X', hL, e1, e2, ⟨⟨u, hv, hp, hb⟩, hF⟩, st⟩ | ⟨q, st₀, t, T', L, E, ce, h0, X', hL, e1, e2, ⟨u, hp, hb, hF⟩, hce, hcv, hcl, st⟩
  · cases hv
    obtain ⟨k1, k2, k3⟩ := vx_keep h0 e1 hS hA hf hL hF
    obtain ⟨t2, a1, b1⟩ := kk u t T'.heap (locs ++ L) e1.symm (by rw [← e2]; exact X'.warmed.alike) hp hb k1 k2 k3 T' rfl X'
    exact ⟨t2, st t2 a1, b1⟩
  · obtain ⟨k1, k2, k3⟩ := vx_keep h0 e1 hS hAX hf hL hF
    obtain ⟨t2, a1, b1⟩ := kx E ce q u t T'.heap (locs ++ L) e1.symm (by rw [← e2]; exact X'.warmed.alike) hp hb k1 k2 k3 (by rw [e1]; exact hce) hcv hcl T' rfl X'
    exact ⟨t2, st.trans a1, b1⟩
/-- caught by the row x of this method's table; the rows ahead don't take it -/
theorem vx_catch {own name : String} {E : String} {ce : Cell} {q : Addr} (hown : s.vm.findClass own = some m.cls) (pre : List ExceptionTableEntry) (x : ExceptionTableEntry) (suf : List ExceptionTableEntry) (hsplit : c.exceptionTable.toList = pre ++ x :: suf)
    (hpass : ∀ z ∈ pre, covers z pc = false ∨ (z.catchType ≠ 0 ∧ ∃ nm : String, (Cond.classLink own z.catchType nm).before args s = true ∧ va_Nc E nm s)) (hx : covers x pc = true) (h0 : x.catchType ≠ 0)
    (hlink : (Cond.classLink own x.catchType name).before args s = true) (hcast : (Cond.castable E name).before args s = true) (hcell : H[q]? = some ce) (hv : ce.vm = .none) (hcl : s.vm.findClass E = some ce.cls)
    (kk : W p l e R s m args below meth c H locs cells slots Q (F0 m x.handlerPc ls [.ref q])) : vx_W p l e R s m args below meth c H locs cells slots Q (F0 m pc ls rest) q := by
  intro T hT X
  have hpl : e.platform.magicAccessors = ({} : Platform).magicAccessors := by rw [X.admits.platform]
  obtain ⟨c3, c4, hc3, hc4, hasg⟩ := Cond.castable_spec hcast
  cases Option.some.inj (hc3.symm.trans hcl)
  obtain ⟨c5, hc5, hcl5⟩ := Cond.classLink_spec hown hlink e.platform hpl
  cases Option.some.inj (hc4.symm.trans hc5)
  obtain ⟨vm', X', st⟩ := X.thenCaughtThrough q (g := F0 m pc ls rest) rfl (Steps.refl _) (by rw [hT]; exact hcell) (by rw [hv]; rfl) (by obtain ⟨k9, h9, -⟩ := Vm.findClass_spec hcl; exact ⟨k9, h9⟩) pre x suf hsplit
    (fun z hz => by
      rcases hpass z hz with h | ⟨hz0, nm, hl1, hn1⟩
      · exact Or.inl h
      · obtain ⟨c6, hc6, hcl6⟩ := Cond.classLink_spec hown hl1 e.platform hpl
        obtain ⟨a8, b8, h1, h2, h3⟩ := hn1
        cases Option.some.inj (h1.symm.trans hcl)
        cases Option.some.inj (h2.symm.trans hc6)
        exact Or.inr ⟨hz0, _, hcl6, h3⟩) hx (Or.inr ⟨h0, c4, hcl5, hasg⟩)
  obtain ⟨t, a1, b1⟩ := kk (T.setVm vm') hT X'
  exact ⟨t, st.trans a1, b1⟩
end Rows
section Ends
variable {p : Program} {l : Launch} {e : Env} {R : Room} {s : State} {m : MethodId} {args : Array Value} {below : List Frame} {meth : Method} {c : Code} {H : Heap} {locs : List Loc} {cells slots : Nat} {Q : State → Prop}
variable {mc ms : Nat} {free : Addr → Prop} {A0 A1 : Nat → Prop} {H0 : Heap} {a : Array Value} {ls : Array Slot} {st0 rest : List Value}
variable {Qc : Array Value → State → Outcome → State → Prop} {XC : String → State → State → Prop}
/-- what a body that may throw owes at its end -/
def vx_MQ (below : List Frame) (Qc : Array Value → State → Outcome → State → Prop) (XC : String → State → State → Prop) (a : Array Value) (s : State) (mc ms : Nat) (free : Addr → Prop) : State → Prop := fun t =>
  ∃ o, t.status = .running ∧ Ended t below o ∧ vx_Q Qc XC mc ms free a s o t
theorem vx_ret {g : JFrame} {mc ms : Nat} (k : W p l e R s m args below meth c H locs cells slots (MQ below Qc args s mc ms free) g) : W p l e R s m args below meth c H locs cells slots (vx_MQ below Qc XC args s mc ms free) g := by
  intro T hT X
  obtain ⟨t, a1, o, b1, b2, b3, b4⟩ := k T hT X
  exact ⟨t, a1, o, b1, b2, Or.inl ⟨b3, b4⟩⟩
/-- not caught here: it goes on to the caller -/
theorem vx_widen {g : JFrame} {q : Addr} {k n : Nat} (h1 : cells ≤ k) (h2 : slots ≤ n) (kk : vx_W p l e R s m args below meth c H locs k n Q g q) : vx_W p l e R s m args below meth c H locs cells slots Q g q := fun T hT X => kk T hT (stand_widen X h1 h2)
theorem vx_out {pc : Nat} {E : String} {ce : Cell} {q : Addr} {mc ms : Nat} (hout : ∀ x ∈ c.exceptionTable.toList, covers x pc = false) (hlocks : meth.locks = false) (hcell : H[q]? = some ce) (hv : ce.vm = .none) (hcl : s.vm.findClass E = some ce.cls)
    (hx : ∀ t : State, t.heap = H → s.vm.Alike t.vm → XC E s t) (hf : ∀ z ∈ locs, free z.base) (hc : cells ≤ mc) (hs : slots ≤ ms) :
    vx_W p l e R s m args below meth c H locs cells slots (vx_MQ below Qc XC args s mc ms free) (F0 m pc ls rest) q := by
  intro T hT X
  obtain ⟨st1, hrun, hend, hW, hsm⟩ := X.leaveThrown q (g := F0 m pc ls rest) rfl rfl rfl hout hlocks
  have hcell9 : (T.setFrames (.throwing q :: below)).heap[q]? = some ce := by
    show T.heap[q]? = some ce
    rw [hT]; exact hcell
  exact ⟨_, st1, .threw q, hrun, hend, Or.inr ⟨q, rfl, E, ce, locs, hx _ hT hW.alike, hcell9, hv, hcl, hW, hsm.mono hc hs, hf⟩⟩
theorem vx_frame {U : State} {k n : Nat} (h : s.sameButNew ({ U with vm := s.vm } : State) locs k n) : s.heap.size ≤ U.heap.size ∧ ∀ q : Nat, q < s.heap.size → (∀ z ∈ locs, z.base ≠ q) → U.heap[q]? = s.heap[q]? := by
  obtain ⟨-, h2, -, -, -, h6⟩ := h
  refine ⟨h2, fun q hq hz => ?_⟩
  obtain ⟨c9, e1, e2, e3, e4⟩ := h6 q _ (Array.getElem?_eq_getElem hq)
  have hs : c9.slots = (s.heap[q]).slots := Array.ext_getElem? fun i => e4 i fun hm => hz _ hm rfl
  have h9 : c9 = s.heap[q] := by
    rw [hs] at e2
    exact e2
  have e5 : U.heap[q]? = some c9 := e1
  rw [e5, h9, Array.getElem?_eq_getElem hq]
/-- the words of a throw but the four that speak of the heap -/
def vx_no (w : Cond) : Bool := decide (w ≠ .isRef (.static Bundle.tN "UNASSIGNED_STACK" Bundle.steD)) && decide (w ≠ .isRef (.static Bundle.tN "SUPPRESSED_SENTINEL" Bundle.listD)) && decide (w ≠ .laysStatic Bundle.tN "UNASSIGNED_STACK" Bundle.steD) && decide (w ≠ .laysStatic Bundle.tN "SUPPRESSED_SENTINEL" Bundle.listD)
def vx_at0 (own : String) (ic : Nat) (X : String) (names : List String) : List Cond := (Bundle.ownAtoms0 own ic X names).filter vx_no
def vx_atS (own : String) (ic : Nat) (X : String) (names : List String) : List Cond := (Bundle.ownAtoms own ic X names).filter vx_no
/-- a word that the tables alone decide, or a good one -/
def vx_ot (w : Cond) : Bool := w.onTables || goodWord w
theorem vx_ot_at {args a' : Array Value} {s U : State} {w : Cond} (hW : s.WarmedH U.vm) (hvm : s.vm = U.vm) (hg : vx_ot w = true) (h : w.before args s = true) : w.before a' U = true := by
  simp only [vx_ot, Bool.or_eq_true] at hg
  rcases hg with hg | hg
  · exact va_tabs hg hvm h
  · exact word_at hW (good_of_word hg) h
/-- a list's words: the good ones out of the method's own list, the others by premises of their own -/
theorem vx_hat {args : Array Value} {s : State} {L B : List Cond} (h1 : ∀ w ∈ L.filter goodWord, w.before args s = true) (h2 : ∀ w ∈ L.filter (fun w => !goodWord w), w ∈ B) (h3 : ∀ w ∈ B, w.before args s = true) : ∀ w ∈ L, w.before args s = true := by
  intro w hw
  by_cases g : goodWord w = true
  · exact h1 w (List.mem_filter.mpr ⟨hw, g⟩)
  · refine h3 w (h2 w (List.mem_filter.mpr ⟨hw, ?_⟩))
    show (!goodWord w) = true
    cases hgw : goodWord w
    · rfl
    · exact absurd hgw g
theorem vx_c {args : Array Value} {s : State} {w : Cond} {B : List Cond} (h : w.before args s = true) (t : ∀ w ∈ B, w.before args s = true) : ∀ w' ∈ w :: B, w'.before args s = true := fun w' h' => (List.mem_cons.mp h').elim (fun e => by rw [e]; exact h) (t w')
theorem vx_n {args : Array Value} {s : State} : ∀ w ∈ ([] : List Cond), w.before args s = true := fun _ h => nomatch h
theorem vx_own {args : Array Value} {s : State} {L : List Cond} (h1 : ∀ w ∈ L.filter vx_no, w.before args s = true)
    (hU : (Cond.isRef (.static Bundle.tN "UNASSIGNED_STACK" Bundle.steD)).before args s = true) (hN : (Cond.isRef (.static Bundle.tN "SUPPRESSED_SENTINEL" Bundle.listD)).before args s = true)
    (lU : (Cond.laysStatic Bundle.tN "UNASSIGNED_STACK" Bundle.steD).before args s = true) (lN : (Cond.laysStatic Bundle.tN "SUPPRESSED_SENTINEL" Bundle.listD).before args s = true) : ∀ w ∈ L, w.before args s = true := by
  intro w hw
  by_cases e1 : w = .isRef (.static Bundle.tN "UNASSIGNED_STACK" Bundle.steD)
  · rw [e1]; exact hU
  · by_cases e2 : w = .isRef (.static Bundle.tN "SUPPRESSED_SENTINEL" Bundle.listD)
    · rw [e2]; exact hN
    · by_cases e3 : w = .laysStatic Bundle.tN "UNASSIGNED_STACK" Bundle.steD
      · rw [e3]; exact lU
      · by_cases e4 : w = .laysStatic Bundle.tN "SUPPRESSED_SENTINEL" Bundle.listD
        · rw [e4]; exact lN
        · exact h1 w (List.mem_filter.mpr ⟨hw, by unfold vx_no; rw [decide_eq_true e1, decide_eq_true e2, decide_eq_true e3, decide_eq_true e4]; rfl⟩)
/-- where a static field lies, its class's statics cell in H -/
def vx_L (C n d : String) (A : Nat → Prop) (U : State) (H : Heap) : Prop := ∃ (c : ClassId) (k : Class) (i : Nat) (f : Field) (a : Nat) (cell : Cell), U.vm.findClass C = some c ∧ U.fieldFound? C n d = some (c, k, i, f) ∧ f.isStatic = true ∧ k.statics = some a ∧ H[a]? = some cell ∧ cell.vm.isStatics = true ∧ cell.cls = c ∧ f.slot < cell.slots.size ∧ k.staticTypes[f.slot]? = some f.type ∧ ¬ A a
theorem vx_L.moved {C n d : String} {A : Nat → Prop} {u U : State} {H : Heap} (hvm : u.vm.Alike U.vm) (h : vx_L C n d A u H) : vx_L C n d A U H := by
  obtain ⟨c, k, i, f, a, cell, h1, h2, h3, h4, h5, h6, h7, h8, h9, h10⟩ := h
  obtain ⟨k', hi', he⟩ := State.fieldFound?_setVm hvm h2
  exact ⟨c, k', i, f, a, cell, by rw [hvm.findClass]; exact h1, hi', h3, by rw [he]; exact h4, h5, h6, h7, h8, by rw [he]; exact h9, h10⟩
theorem vx_L.kept {C n d : String} {A : Nat → Prop} {U : State} {H H1 : Heap} (h : vx_L C n d A U H) (hq : ∀ a : Nat, a < H.size → ¬ A a → H1[a]? = H[a]?) : vx_L C n d A U H1 := by
  obtain ⟨c, k, i, f, a, cell, h1, h2, h3, h4, h5, h6, h7, h8, h9, h10⟩ := h
  exact ⟨c, k, i, f, a, cell, h1, h2, h3, h4, by rw [hq a (Array.getElem?_eq_some_iff.mp h5).1 h10]; exact h5, h6, h7, h8, h9, h10⟩
theorem vx_L.narrow {C n d : String} {A B : Nat → Prop} {U : State} {H : Heap} (h : vx_L C n d A U H) (hAB : ∀ q, B q → A q) : vx_L C n d B U H := by
  obtain ⟨c, k, i, f, a, cell, h1, h2, h3, h4, h5, h6, h7, h8, h9, h10⟩ := h
  exact ⟨c, k, i, f, a, cell, h1, h2, h3, h4, h5, h6, h7, h8, h9, fun z => h10 (hAB _ z)⟩
theorem vx_L.word {C n d : String} {A : Nat → Prop} {s : State} {args : Array Value} (h : vx_L C n d A s s.heap) : (Cond.laysStatic C n d).before args s = true := by
  obtain ⟨c, k, i, f, a, cell, h1, h2, h3, h4, h5, h6, h7, h8, h9, -⟩ := h
  show (Cond.laysStatic C n d).holds args s none s [] = true
  exact Cond.laysStatic_of h1 h2 h3 h4 h5 h6 h7 h8 h9
/-- .. and what it holds: null or some reference -/
def vx_Zq (C n d : String) (A : Nat → Prop) (U : State) (H : Heap) : Prop := va_Zq C n d A U H ∧ vx_L C n d A U H
theorem vx_Zq.moved {C n d : String} {A : Nat → Prop} {u U : State} {H : Heap} (hvm : u.vm.Alike U.vm) (h : vx_Zq C n d A u H) : vx_Zq C n d A U H := ⟨va_Zq.moved hvm h.1, vx_L.moved hvm h.2⟩
theorem vx_Zq.kept {C n d : String} {A : Nat → Prop} {U : State} {H H1 : Heap} (h : vx_Zq C n d A U H) (hq : ∀ a : Nat, a < H.size → ¬ A a → H1[a]? = H[a]?) : vx_Zq C n d A U H1 := ⟨va_Zq.kept h.1 hq, vx_L.kept h.2 hq⟩
theorem vx_Zq.narrow {C n d : String} {A B : Nat → Prop} {U : State} {H : Heap} (h : vx_Zq C n d A U H) (hAB : ∀ q, B q → A q) : vx_Zq C n d B U H := ⟨va_Zq.narrow h.1 hAB, vx_L.narrow h.2 hAB⟩
theorem vx_Zqof {args : Array Value} {s : State} {C n d : String} {A : Nat → Prop} (hl : (Cond.laysStatic C n d).before args s = true) (hini : (Cond.initialized C).before args s = true) (h : (Cond.isRef (.static C n d)).before args s = true) (hA : ∀ a : Nat, a < s.heap.size → ¬ A a) : vx_Zq C n d A s s.heap := by
  refine ⟨va_Zqof hl hini h hA, ?_⟩
  obtain ⟨c, k, i, f, a, cell, h1, h2, h3, h4, h5, h6, h7, h8, h9⟩ := Cond.laysStatic_spec hl
  exact ⟨c, k, i, f, a, cell, h1, h2, h3, h4, h5, h6, h7, h8, h9, hA a (Array.getElem?_eq_some_iff.mp h5).1⟩
theorem vx_isRef {C n d : String} {v : Value} {A : Nat → Prop} {s : State} {args : Array Value} (h : va_Z C n d v A s s.heap) (hv : v.isRef = true) : (Cond.isRef (.static C n d)).before args s = true := by
  obtain ⟨cf, kf, fi, f, a, cell, h1, h2, h3, h4, h5, h6, h7, -⟩ := h
  have he : (Term.static C n d).eval args s none [] s = some v := by
    simp [Term.eval, State.fieldNamed?, h1, h2, h4, h5, h6, h7]
  simp only [Cond.before, Cond.holds, Cond.value, he]
  cases v <;> simp_all [Value.isRef]
theorem vx_isRefq {C n d : String} {A : Nat → Prop} {s : State} {args : Array Value} (h : va_Zq C n d A s s.heap) : (Cond.isRef (.static C n d)).before args s = true := by
  rcases h with h | ⟨t, h⟩
  · exact vx_isRef h rfl
  · exact vx_isRef h rfl
/-- the same frame, seen from here: as if the method were called anew in this heap -/
theorem vx_rebase {T : State} (X : Stand p l e R s m args below meth c T locs cells slots) {R' : Room} (hf : R'.frames ≤ R.frames) (hl : R'.locals ≤ R.locals) (hc : cells + R'.cells ≤ R.cells) (hs : slots + R'.slots ≤ R.slots) :
    Stand p l e R' ((T.setVm s.vm).setFrames (.invoking m args :: below)) m args below meth c T [] 0 0 := by
  have htop : (T.setVm s.vm).topJava?.isSome := X.here.top
  have hF : ((T.setVm s.vm).setFrames (.invoking m args :: below)).frames = .invoking m args :: below := State.frames_setFrames _ (State.cur_lt_of_top htop)
  obtain ⟨g₀, hg0⟩ := Option.isSome_iff_exists.mp htop
  obtain ⟨r, hr⟩ := State.topJava?_eq_some.mp hg0
  have hl9 : e.platform.stackLimits (T.setVm s.vm).me = e.platform.stackLimits s.me := X.limits
  have hb9 : (T.setVm s.vm).me.stackBytes = s.me.stackBytes := X.bytes
  refine ⟨X.admits, X.cas, X.clock, hF, ?_, X.hears, X.method, X.code, X.here, X.tail, X.warmed, ?_, ?_, ?_⟩
  · have h := X.room
    have hU : ((T.setVm s.vm).setFrames (.invoking m args :: below)).localsInUse = s.localsInUse := by
      rw [State.localsInUse_invoking hF (meth := meth) (c := c) X.method X.code, State.localsInUse_invoking X.frames X.method X.code]
    simp only [State.hasRoom, Bool.and_eq_true, decide_eq_true_eq] at h ⊢
    obtain ⟨⟨⟨⟨h1, h2, h3, h4, h5, h6⟩, h7⟩, h8⟩, h9⟩ := h
    rw [X.frames, List.length_cons] at h2 h3
    have q1 := X.heapSize
    have q2 := X.used
    simp only [hF, hU, List.length_cons, State.stackLimits_setFrames, State.stackBytes_setFrames, hl9, hb9]
    refine ⟨⟨⟨⟨by omega, by omega, by omega, by omega, by omega, h6⟩, ?_⟩, ?_⟩, X.book⟩
    · show T.heap.size + R'.cells ≤ e.platform.maxCells
      omega
    · show T.slotsUsed + R'.slots ≤ e.platform.maxSlots
      omega
  · rw [State.stackLimits_setFrames]; rfl
  · rw [State.stackBytes_setFrames]; rfl
  · refine ⟨?_, Nat.le_refl _, Nat.le_refl _, ?_, ?_, fun a c9 h9 => ⟨c9, h9, rfl, rfl, fun _ _ => rfl⟩⟩
    · obtain ⟨t, ht, -⟩ := State.frames_cons hr
      show T.setVm s.vm = { ((T.setVm s.vm).setFrames (.invoking m args :: below)).setFrames (T.setVm s.vm).frames with heap := T.heap, slotsUsed := T.slotsUsed }
      rw [State.setFrames_setFrames, State.setFrames_self ht]
      rfl
    · show T.slotsUsed = T.slotsUsed + ((T.heap.toList.drop T.heap.size).map (·.slots.size)).sum
      rw [List.drop_eq_nil_of_le (Nat.le_of_eq Array.length_toList)]
      rfl
    · show ((T.heap.toList.drop T.heap.size).map (·.slots.size)).sum ≤ 0
      rw [List.drop_eq_nil_of_le (Nat.le_of_eq Array.length_toList)]
      exact Nat.le_refl _
/-- 'throw new E()': new; dup; invokespecial; athrow -/
theorem vx_throw0 {cc : ByteArray} {pc : Nat} (hexec : p.tables.exec = Jvm.exec) (hb : c.code = cc) (hl : l.stackTraces = false) {own cls : String} {names : List String} {ik ic mc ms : Nat} {A : Nat → Prop}
    (hown : s.vm.findClass own = some m.cls) (hcls : Bundle.fit cls = true) (hnames : ∀ n ∈ names, Bundle.fit n = true)
    (hk : (Cond.classLink own ik cls).before args s = true) (hini : (Cond.initialized cls).before args s = true) (hat : ∀ w ∈ vx_at0 own ic cls names, w.before args s = true)
    (hgood : ∀ w ∈ Cond.classLink own ik cls :: Cond.initialized cls :: vx_at0 own ic cls names, vx_ot w = true)
    (hU : vx_Zq Bundle.tN "UNASSIGNED_STACK" Bundle.steD A s s.heap) (hN : vx_Zq Bundle.tN "SUPPRESSED_SENTINEL" Bundle.listD A s s.heap) (hS : va_S A s.heap H locs) (hsize : ls.size = c.maxLocals)
    (d0 : decode cc pc = .ok (.new ik, 3)) (d3 : decode cc (pc + 3) = .ok (.dup, 1)) (d4 : decode cc (pc + 4) = .ok (.invokespecial ic, 3)) (d7 : decode cc (pc + 7) = .ok (.athrow, 1))
    (hout : ∀ x ∈ c.exceptionTable.toList, covers x (pc + 7) = false)
    (hRframes : names.length + 3 < R.frames) (hRlocals : (rest.map fun v => v.category).sum + (13 * (names.length + 1) + 42) ≤ R.locals) (hRcells : cells + 1 ≤ R.cells) (hRslots : slots + 6 ≤ R.slots) (hlocks : meth.locks = false)
    (hx : ∀ t : State, s.vm.Alike t.vm → H.size ≤ t.heap.size → (∀ q : Nat, q < H.size → t.heap[q]? = H[q]?) → XC cls s t)
    (hf : ∀ z ∈ locs, free z.base) (hc : cells + 1 ≤ mc) (hs : slots + 6 ≤ ms) :
    W p l e R s m args below meth c H locs cells slots (vx_MQ below Qc XC args s mc ms free) (F0 m pc ls rest) := by
  intro T hT X
  have htr : e.platform.stackTraces = false := (show e.platform.stackTraces = l.stackTraces by rw [X.admits.platform]).trans hl
  have Y := vx_rebase X (R' := { frames := R.frames, locals := R.locals, cells := 1, slots := 6 }) (Nat.le_refl _) (Nat.le_refl _) hRcells hRslots
  obtain ⟨s', hA⟩ : ∃ z, z = (T.setVm s.vm).setFrames (.invoking m args :: below) := ⟨_, rfl⟩
  rw [← hA] at Y
  have hvm : s'.vm = s.vm := by rw [hA]; rfl
  have hhp : s'.heap = H := by rw [hA]; exact hT
  have hW0 : s.WarmedH s'.vm := by rw [hvm]; exact State.WarmedH.refl s
  have hat' : ∀ w ∈ vx_at0 own ic cls names, w.before args s' = true := fun w hw => vx_ot_at hW0 hvm.symm (hgood w (List.mem_cons_of_mem _ (List.mem_cons_of_mem _ hw))) (hat w hw)
  have hk' : (Cond.classLink own ik cls).before args s' = true := vx_ot_at hW0 hvm.symm (hgood _ List.mem_cons_self) hk
  have hini' : (Cond.initialized cls).before args s' = true := vx_ot_at hW0 hvm.symm (hgood _ (List.mem_cons_of_mem _ List.mem_cons_self)) hini
  have hU' : vx_Zq Bundle.tN "UNASSIGNED_STACK" Bundle.steD A s' s'.heap := by rw [hhp]; exact vx_Zq.moved hW0.alike (hU.kept hS.2.1)
  have hN' : vx_Zq Bundle.tN "SUPPRESSED_SENTINEL" Bundle.listD A s' s'.heap := by rw [hhp]; exact vx_Zq.moved hW0.alike (hN.kept hS.2.1)
  have h : ∀ w ∈ Bundle.ownAtoms0 own ic cls names, w.before args s' = true := vx_own hat' (vx_isRefq hU'.1) (vx_isRefq hN'.1) hU'.2.word hN'.2.word
  have hown' : s'.vm.findClass own = some m.cls := by rw [hvm]; exact hown
  have hins : (Cond.instantiable cls 6).before args s' = true := h _ (by simp [Bundle.ownAtoms0])
  obtain ⟨vm₁, cX, kX, hfX, hkX, -, -, X₁, st1⟩ := Y.newCold hexec (own := own) (C := cls) (index := ik) (n := 6) hown' hk' hins hini'
    (g := F0 m pc ls rest) rfl (by rw [hb]; exact d0) (Nat.le_refl _) (Nat.le_refl _)
  generalize hT1 : (T.setVm vm₁).pushCell { cls := cX, slots := kX.instanceTypes.map defaultValue, vm := .none } = T1 at X₁ st1
  have hcat : (Value.ref T.heap.size).category = 1 := rfl
  have hcellA : T1.heap[T.heap.size]? = some (freshCell cX kX) := by rw [← hT1]; exact State.heap_pushCell_size _ _
  have d3' : decode c.code (pc + 3) = .ok (.dup, 1) := by rw [hb]; exact d3
  obtain ⟨U, hsteps, hrun, hend, hW, hsame, ce, hce, hO⟩ := X₁.ctorThrow0 hexec htr (own := own) (cls := cls) (names := names) (ic := ic) hown' hcls hnames h (fun x hx => nomatch hx) hfX hkX hcellA (by rw [hhp, hT]; exact Nat.le_refl _)
    (g := { method := m, pc := pc + 4, locals := ls, stack := .ref T.heap.size :: .ref T.heap.size :: rest, locked := none }) rfl hsize rfl rfl (rest := rest) rfl
    (by rw [hb]; exact d4) (by rw [hb]; exact d7) hout hRframes (by simp only [List.map_cons, List.sum_cons, hcat]; omega) hlocks
  obtain ⟨f1, f2⟩ := vx_frame hsame
  rw [hhp] at f1 f2
  have hWs : s.WarmedH U.vm := State.WarmedH.trans hW0 hW
  have hcl : s.vm.findClass cls = some ce.cls := by
    have h9 := hO.cls
    rw [hvm] at h9
    exact h9
  have hall : s.sameButNew ({ U with vm := s.vm } : State) locs mc ms := by
    subst hA
    obtain ⟨e1, e2⟩ := hsame
    rw [State.setFrames_setFrames] at e1
    have h2 : (T.setVm s.vm).sameButNew ({ U with vm := s.vm } : State) [] (0 + 1) (0 + 6) := ⟨e1, e2⟩
    have h3 := X.same.trans h2
    rw [List.append_nil] at h3
    exact h3.mono hc hs
  refine ⟨U, ?_, .threw T.heap.size, hrun, hend, Or.inr ⟨T.heap.size, rfl, cls, ce, locs, hx U hWs.alike f1 (fun q hq => f2 q hq (fun z hz => nomatch hz)), hce, hO.vm, hcl, hWs, hall, hf⟩⟩
  refine st1 _ ?_
  show Steps p.tables e below (T1.setTop { method := m, pc := pc + 3, locals := ls, stack := .ref T.heap.size :: rest, locked := none }) _
  jvm_step X₁.here [X₁.here.top, hexec, d3', Value.category]
  exact hsteps
/-- 'throw new E("text")': new; dup; ldc; invokespecial; athrow -/
theorem vx_throwS {cc : ByteArray} {pc : Nat} (hexec : p.tables.exec = Jvm.exec) (hb : c.code = cc) (hl : l.stackTraces = false) {own cls text : String} {names : List String} {ik is ic mc ms sa : Nat} {A : Nat → Prop}
    (hown : s.vm.findClass own = some m.cls) (hcls : Bundle.fit cls = true) (hnames : ∀ n ∈ names, Bundle.fit n = true)
    (hk : (Cond.classLink own ik cls).before args s = true) (hini : (Cond.initialized cls).before args s = true) (hstr : vk_R own is text sa s) (hat : ∀ w ∈ vx_atS own ic cls names, w.before args s = true)
    (hgood : ∀ w ∈ Cond.classLink own ik cls :: Cond.initialized cls :: vx_atS own ic cls names, vx_ot w = true)
    (hU : vx_Zq Bundle.tN "UNASSIGNED_STACK" Bundle.steD A s s.heap) (hN : vx_Zq Bundle.tN "SUPPRESSED_SENTINEL" Bundle.listD A s s.heap) (hS : va_S A s.heap H locs) (hsize : ls.size = c.maxLocals)
    (d0 : decode cc pc = .ok (.new ik, 3)) (d3 : decode cc (pc + 3) = .ok (.dup, 1)) (d4 : decode cc (pc + 4) = .ok (.ldc is, 2)) (d6 : decode cc (pc + 6) = .ok (.invokespecial ic, 3)) (d9 : decode cc (pc + 9) = .ok (.athrow, 1))
    (hout : ∀ x ∈ c.exceptionTable.toList, covers x (pc + 9) = false)
    (hRframes : names.length + 3 < R.frames) (hRlocals : (rest.map fun v => v.category).sum + (13 * (names.length + 1) + 43) ≤ R.locals) (hRcells : cells + 1 ≤ R.cells) (hRslots : slots + 6 ≤ R.slots) (hlocks : meth.locks = false)
    (hx : ∀ t : State, s.vm.Alike t.vm → H.size ≤ t.heap.size → (∀ q : Nat, q < H.size → t.heap[q]? = H[q]?) → XC cls s t)
    (hf : ∀ z ∈ locs, free z.base) (hc : cells + 1 ≤ mc) (hs : slots + 6 ≤ ms) :
    W p l e R s m args below meth c H locs cells slots (vx_MQ below Qc XC args s mc ms free) (F0 m pc ls rest) := by
  intro T hT X
  have htr : e.platform.stackTraces = false := (show e.platform.stackTraces = l.stackTraces by rw [X.admits.platform]).trans hl
  have Y := vx_rebase X (R' := { frames := R.frames, locals := R.locals, cells := 1, slots := 6 }) (Nat.le_refl _) (Nat.le_refl _) hRcells hRslots
  obtain ⟨s', hA⟩ : ∃ z, z = (T.setVm s.vm).setFrames (.invoking m args :: below) := ⟨_, rfl⟩
  rw [← hA] at Y
  have hvm : s'.vm = s.vm := by rw [hA]; rfl
  have hhp : s'.heap = H := by rw [hA]; exact hT
  have hW0 : s.WarmedH s'.vm := by rw [hvm]; exact State.WarmedH.refl s
  have hat' : ∀ w ∈ vx_atS own ic cls names, w.before args s' = true := fun w hw => vx_ot_at hW0 hvm.symm (hgood w (List.mem_cons_of_mem _ (List.mem_cons_of_mem _ hw))) (hat w hw)
  have hk' : (Cond.classLink own ik cls).before args s' = true := vx_ot_at hW0 hvm.symm (hgood _ List.mem_cons_self) hk
  have hini' : (Cond.initialized cls).before args s' = true := vx_ot_at hW0 hvm.symm (hgood _ (List.mem_cons_of_mem _ List.mem_cons_self)) hini
  have hU' : vx_Zq Bundle.tN "UNASSIGNED_STACK" Bundle.steD A s' s'.heap := by rw [hhp]; exact vx_Zq.moved hW0.alike (hU.kept hS.2.1)
  have hN' : vx_Zq Bundle.tN "SUPPRESSED_SENTINEL" Bundle.listD A s' s'.heap := by rw [hhp]; exact vx_Zq.moved hW0.alike (hN.kept hS.2.1)
  have h : ∀ w ∈ Bundle.ownAtoms own ic cls names, w.before args s' = true := vx_own hat' (vx_isRefq hU'.1) (vx_isRefq hN'.1) hU'.2.word hN'.2.word
  have hown' : s'.vm.findClass own = some m.cls := by rw [hvm]; exact hown
  have hins : (Cond.instantiable cls 6).before args s' = true := h _ (by simp [Bundle.ownAtoms])
  obtain ⟨vm₁, cX, kX, hfX, hkX, -, -, X₁, st1⟩ := Y.newCold hexec (own := own) (C := cls) (index := ik) (n := 6) hown' hk' hins hini'
    (g := F0 m pc ls rest) rfl (by rw [hb]; exact d0) (Nat.le_refl _) (Nat.le_refl _)
  generalize hT1 : (T.setVm vm₁).pushCell { cls := cX, slots := kX.instanceTypes.map defaultValue, vm := .none } = T1 at X₁ st1
  have hcat : (Value.ref T.heap.size).category = 1 := rfl
  have hcellA : T1.heap[T.heap.size]? = some (freshCell cX kX) := by rw [← hT1]; exact State.heap_pushCell_size _ _
  have d3' : decode c.code (pc + 3) = .ok (.dup, 1) := by rw [hb]; exact d3
  have d4' : decode c.code (pc + 4) = .ok (.ldc is, 2) := by rw [hb]; exact d4
  have hstr' : vk_R own is text sa s' := vk_R.warm hW0 hstr
  obtain ⟨U, hsteps, hrun, hend, hW, hsame, ce, hce, hO⟩ := X₁.ctorThrowS hexec htr (own := own) (cls := cls) (names := names) (ic := ic) hown' hcls hnames h (fun x hx => nomatch hx) hfX hkX hcellA (by rw [hhp, hT]; exact Nat.le_refl _) (msg := .ref sa) rfl
    (g := { method := m, pc := pc + 6, locals := ls, stack := .ref sa :: .ref T.heap.size :: .ref T.heap.size :: rest, locked := none }) rfl hsize rfl rfl (rest := rest) rfl
    (by rw [hb]; exact d6) (by rw [hb]; exact d9) hout hRframes (by simp only [List.map_cons, List.sum_cons, hcat]; omega) hlocks
  obtain ⟨f1, f2⟩ := vx_frame hsame
  rw [hhp] at f1 f2
  have hWs : s.WarmedH U.vm := State.WarmedH.trans hW0 hW
  have hcl : s.vm.findClass cls = some ce.cls := by
    have h9 := hO.cls
    rw [hvm] at h9
    exact h9
  have hall : s.sameButNew ({ U with vm := s.vm } : State) locs mc ms := by
    subst hA
    obtain ⟨e1, e2⟩ := hsame
    rw [State.setFrames_setFrames] at e1
    have h2 : (T.setVm s.vm).sameButNew ({ U with vm := s.vm } : State) [] (0 + 1) (0 + 6) := ⟨e1, e2⟩
    have h3 := X.same.trans h2
    rw [List.append_nil] at h3
    exact h3.mono hc hs
  refine ⟨U, ?_, .threw T.heap.size, hrun, hend, Or.inr ⟨T.heap.size, rfl, cls, ce, locs, hx U hWs.alike f1 (fun q hq => f2 q hq (fun z hz => nomatch hz)), hce, hO.vm, hcl, hWs, hall, hf⟩⟩
  refine st1 _ ?_
  show Steps p.tables e below (T1.setTop { method := m, pc := pc + 3, locals := ls, stack := .ref T.heap.size :: rest, locked := none }) _
  jvm_step X₁.here [X₁.here.top, hexec, d3', Value.category]
  exact X₁.ldcString hexec (own := own) (text := text) (index := is) (a := sa) hown' hstr'.1 hstr'.2
    (g := { method := m, pc := pc + 4, locals := ls, stack := .ref T.heap.size :: .ref T.heap.size :: rest, locked := none }) rfl d4' _ hsteps
/-- 'throw new E("text")', the text by a wide index -/
theorem vx_throwSW {cc : ByteArray} {pc : Nat} (hexec : p.tables.exec = Jvm.exec) (hb : c.code = cc) (hl : l.stackTraces = false) {own cls text : String} {names : List String} {ik is ic mc ms sa : Nat} {A : Nat → Prop}
    (hown : s.vm.findClass own = some m.cls) (hcls : Bundle.fit cls = true) (hnames : ∀ n ∈ names, Bundle.fit n = true)
    (hk : (Cond.classLink own ik cls).before args s = true) (hini : (Cond.initialized cls).before args s = true) (hstr : vk_R own is text sa s) (hat : ∀ w ∈ vx_atS own ic cls names, w.before args s = true)
    (hgood : ∀ w ∈ Cond.classLink own ik cls :: Cond.initialized cls :: vx_atS own ic cls names, vx_ot w = true)
    (hU : vx_Zq Bundle.tN "UNASSIGNED_STACK" Bundle.steD A s s.heap) (hN : vx_Zq Bundle.tN "SUPPRESSED_SENTINEL" Bundle.listD A s s.heap) (hS : va_S A s.heap H locs) (hsize : ls.size = c.maxLocals)
    (d0 : decode cc pc = .ok (.new ik, 3)) (d3 : decode cc (pc + 3) = .ok (.dup, 1)) (d4 : decode cc (pc + 4) = .ok (.ldc_w is, 3)) (d7 : decode cc (pc + 7) = .ok (.invokespecial ic, 3)) (d10 : decode cc (pc + 10) = .ok (.athrow, 1))
    (hout : ∀ x ∈ c.exceptionTable.toList, covers x (pc + 10) = false)
    (hRframes : names.length + 3 < R.frames) (hRlocals : (rest.map fun v => v.category).sum + (13 * (names.length + 1) + 43) ≤ R.locals) (hRcells : cells + 1 ≤ R.cells) (hRslots : slots + 6 ≤ R.slots) (hlocks : meth.locks = false)
    (hx : ∀ t : State, s.vm.Alike t.vm → H.size ≤ t.heap.size → (∀ q : Nat, q < H.size → t.heap[q]? = H[q]?) → XC cls s t)
    (hf : ∀ z ∈ locs, free z.base) (hc : cells + 1 ≤ mc) (hs : slots + 6 ≤ ms) :
    W p l e R s m args below meth c H locs cells slots (vx_MQ below Qc XC args s mc ms free) (F0 m pc ls rest) := by
  intro T hT X
  have htr : e.platform.stackTraces = false := (show e.platform.stackTraces = l.stackTraces by rw [X.admits.platform]).trans hl
  have Y := vx_rebase X (R' := { frames := R.frames, locals := R.locals, cells := 1, slots := 6 }) (Nat.le_refl _) (Nat.le_refl _) hRcells hRslots
  obtain ⟨s', hA⟩ : ∃ z, z = (T.setVm s.vm).setFrames (.invoking m args :: below) := ⟨_, rfl⟩
  rw [← hA] at Y
  have hvm : s'.vm = s.vm := by rw [hA]; rfl
  have hhp : s'.heap = H := by rw [hA]; exact hT
  have hW0 : s.WarmedH s'.vm := by rw [hvm]; exact State.WarmedH.refl s
  have hat' : ∀ w ∈ vx_atS own ic cls names, w.before args s' = true := fun w hw => vx_ot_at hW0 hvm.symm (hgood w (List.mem_cons_of_mem _ (List.mem_cons_of_mem _ hw))) (hat w hw)
  have hk' : (Cond.classLink own ik cls).before args s' = true := vx_ot_at hW0 hvm.symm (hgood _ List.mem_cons_self) hk
  have hini' : (Cond.initialized cls).before args s' = true := vx_ot_at hW0 hvm.symm (hgood _ (List.mem_cons_of_mem _ List.mem_cons_self)) hini
  have hU' : vx_Zq Bundle.tN "UNASSIGNED_STACK" Bundle.steD A s' s'.heap := by rw [hhp]; exact vx_Zq.moved hW0.alike (hU.kept hS.2.1)
  have hN' : vx_Zq Bundle.tN "SUPPRESSED_SENTINEL" Bundle.listD A s' s'.heap := by rw [hhp]; exact vx_Zq.moved hW0.alike (hN.kept hS.2.1)
  have h : ∀ w ∈ Bundle.ownAtoms own ic cls names, w.before args s' = true := vx_own hat' (vx_isRefq hU'.1) (vx_isRefq hN'.1) hU'.2.word hN'.2.word
  have hown' : s'.vm.findClass own = some m.cls := by rw [hvm]; exact hown
  have hins : (Cond.instantiable cls 6).before args s' = true := h _ (by simp [Bundle.ownAtoms])
  obtain ⟨vm₁, cX, kX, hfX, hkX, -, -, X₁, st1⟩ := Y.newCold hexec (own := own) (C := cls) (index := ik) (n := 6) hown' hk' hins hini'
    (g := F0 m pc ls rest) rfl (by rw [hb]; exact d0) (Nat.le_refl _) (Nat.le_refl _)
  generalize hT1 : (T.setVm vm₁).pushCell { cls := cX, slots := kX.instanceTypes.map defaultValue, vm := .none } = T1 at X₁ st1
  have hcat : (Value.ref T.heap.size).category = 1 := rfl
  have hcellA : T1.heap[T.heap.size]? = some (freshCell cX kX) := by rw [← hT1]; exact State.heap_pushCell_size _ _
  have d3' : decode c.code (pc + 3) = .ok (.dup, 1) := by rw [hb]; exact d3
  have d4' : decode c.code (pc + 4) = .ok (.ldc_w is, 3) := by rw [hb]; exact d4
  have hstr' : vk_R own is text sa s' := vk_R.warm hW0 hstr
  obtain ⟨U, hsteps, hrun, hend, hW, hsame, ce, hce, hO⟩ := X₁.ctorThrowS hexec htr (own := own) (cls := cls) (names := names) (ic := ic) hown' hcls hnames h (fun x hx => nomatch hx) hfX hkX hcellA (by rw [hhp, hT]; exact Nat.le_refl _) (msg := .ref sa) rfl
    (g := { method := m, pc := pc + 7, locals := ls, stack := .ref sa :: .ref T.heap.size :: .ref T.heap.size :: rest, locked := none }) rfl hsize rfl rfl (rest := rest) rfl
    (by rw [hb]; exact d7) (by rw [hb]; exact d10) hout hRframes (by simp only [List.map_cons, List.sum_cons, hcat]; omega) hlocks
  obtain ⟨f1, f2⟩ := vx_frame hsame
  rw [hhp] at f1 f2
  have hWs : s.WarmedH U.vm := State.WarmedH.trans hW0 hW
  have hcl : s.vm.findClass cls = some ce.cls := by
    have h9 := hO.cls
    rw [hvm] at h9
    exact h9
  have hall : s.sameButNew ({ U with vm := s.vm } : State) locs mc ms := by
    subst hA
    obtain ⟨e1, e2⟩ := hsame
    rw [State.setFrames_setFrames] at e1
    have h2 : (T.setVm s.vm).sameButNew ({ U with vm := s.vm } : State) [] (0 + 1) (0 + 6) := ⟨e1, e2⟩
    have h3 := X.same.trans h2
    rw [List.append_nil] at h3
    exact h3.mono hc hs
  refine ⟨U, ?_, .threw T.heap.size, hrun, hend, Or.inr ⟨T.heap.size, rfl, cls, ce, locs, hx U hWs.alike f1 (fun q hq => f2 q hq (fun z hz => nomatch hz)), hce, hO.vm, hcl, hWs, hall, hf⟩⟩
  refine st1 _ ?_
  show Steps p.tables e below (T1.setTop { method := m, pc := pc + 3, locals := ls, stack := .ref T.heap.size :: rest, locked := none }) _
  jvm_step X₁.here [X₁.here.top, hexec, d3', Value.category]
  exact X₁.ldcStringW hexec (own := own) (text := text) (index := is) (a := sa) hown' hstr'.1 hstr'.2
    (g := { method := m, pc := pc + 4, locals := ls, stack := .ref T.heap.size :: .ref T.heap.size :: rest, locked := none }) rfl d4' _ hsteps
end Ends
section Bodies
variable {l : Launch}
theorem vx_ofW {y : MethodName} {ws ws' : List Cond} {rm : Room} {Pc : Array Value → State → Prop} {Qc : Array Value → State → Outcome → State → Prop} {XC : String → State → State → Prop} {mc ms : Nat} {free : Addr → Prop} {cc : ByteArray} {maxL : Nat} {ret : Option FieldType}
    (hy : plainName y.cls = true) (hw : ws = Cond.code y cc maxL ret :: ws')
    (body : ∀ p e s m args below meth c s₁, BodyLoose p l y (headSpec ws rm) cc maxL ret e s m args below meth c s₁ → c.maxLocals = maxL → (∀ x ∈ c.exceptionTable.toList, False) → Pc args s →
      W p l e (headSpec ws rm).room s m args below meth c s.heap [] 0 0 (vx_MQ below Qc XC args s mc ms free) (entryFrame m args maxL)) : vx_Met l y ws rm Pc Qc XC mc ms free := by
  refine MetFree.of_bodyS (code := cc) (maxLocals := maxL) (ret := ret) hy ?_ ?_
  · intro args s m h hn
    obtain ⟨meth, c, h1, h2, h3, h4, h5, h6, -, -⟩ := Cond.code_spec hn (atoms_spec (ws := ws) h _ (by rw [hw]; exact List.mem_cons_self))
    exact ⟨meth, c, h1, h2, h3, h4, h5, h6⟩
  · intro p e s m args below meth c s₁ B hml hP _
    have hh0 : s₁.heap = s.heap := by rw [B.state]; rfl
    have ht : ∀ x ∈ c.exceptionTable.toList, False := by
      obtain ⟨meth9, c9, h1, h2, -, -, -, -, h7, -⟩ := Cond.code_spec B.named (atoms_spec (ws := ws) B.pre _ (by rw [hw]; exact List.mem_cons_self))
      cases Option.some.inj (h1.symm.trans B.method)
      cases Option.some.inj (h2.symm.trans (Stand.of_body B).code)
      intro x hx
      rw [Array.isEmpty_iff.mp h7] at hx
      cases hx
    obtain ⟨t, a1, o, b1, b2, b3⟩ := body p e s m args below meth c s₁ B hml ht hP s₁ hh0 (Stand.of_body B)
    exact ⟨t, o, a1, b1, b2, b3⟩
/-- the table of a body with handlers -/
theorem vx_table {p : Program} {x y : MethodName} {S : Spec} {cc bytes : ByteArray} {maxL maxL' : Nat} {ret ret' : Option FieldType} {e : Env} {s s₁ : State} {m : MethodId} {args : Array Value} {below : List Frame} {meth : Method} {c : Code} {hh : List (Nat × Nat × Nat × Nat)}
    (B : BodyLoose p l y S cc maxL ret e s m args below meth c s₁) (h : (Cond.codeWith y bytes maxL' ret' hh).before args s = true) : c.exceptionTable.toList = tableOf hh := by
  obtain ⟨m9, meth9, c9, hn9, h1, h2, -, -, h6, -⟩ := Cond.codeWith_spec h
  cases Option.some.inj (hn9.symm.trans B.named)
  cases Option.some.inj (h1.symm.trans B.method)
  cases Option.some.inj (h2.symm.trans (Stand.of_body B).code)
  rw [← h6, table_eq]
end Bodies
end VXA
/-! ===== END ===== -/
/-! ===== BEGIN a static call of a method with an exception table ===== -/
section VXS
variable {p : Program} {l : Launch} {e : Env} {R : Room} {s : State} {m : MethodId} {args : Array Value} {below : List Frame} {meth : Method} {c : Code} {T : State} {H : Heap} {locs : List Loc} {cells slots : Nat}
abbrev vx_CSW (R : Room) (s : State) (args : Array Value) (own : String) (index : Nat) (y : MethodName) (bytes : ByteArray) (maxL : Nat) (ret : Option FieldType) (hh : List (Nat × Nat × Nat × Nat)) (ws : List Cond) (rm : Room) (mc ms n : Nat) : Prop :=
  (rm.cells = mc ∧ rm.slots = ms ∧ rm.frames + 1 ≤ R.frames ∧ 8 + (maxL + 11) + rm.locals ≤ R.locals ∧ (∀ w ∈ ws, ∀ (a' : Array Value) (U : State), s.WarmedH U.vm → w.before a' U = true) ∧ Cond.codeWith y bytes maxL ret hh ∈ ws) ∧
  (Cond.codeWith y bytes maxL ret hh).before args s = true ∧ (Cond.initialized y.cls).before args s = true ∧ (y.cls ≠ "java/lang/invoke/MethodHandle" ∧ y.cls ≠ "java/lang/invoke/VarHandle") ∧
  (∀ sig, parseMethodDescriptor y.desc = some sig → n = sig.parameters.length) ∧ (Cond.methodLink own index y).before args s = true ∧ (Cond.static y).before args s = true
theorem vx_cwSW {own : String} {index maxL mc ms : Nat} {y : MethodName} {bytes : ByteArray} {ret : Option FieldType} {hh : List (Nat × Nat × Nat × Nat)} {Ts ws ws' : List Cond} {rm : Room} (n : Nat) (ht : ∀ w ∈ Ts, w.before args s = true) (hT : GoodIn Ts (va_wsS own index y ws)) (hw : ws = Cond.codeWith y bytes maxL ret hh :: ws') (hrc : rm.cells = mc) (hrs : rm.slots = ms)
    (hd : y.cls ≠ "java/lang/invoke/MethodHandle" ∧ y.cls ≠ "java/lang/invoke/VarHandle" ∧ (parseMethodDescriptor y.desc).map (fun d => d.parameters.length) = some n) (hR : rm.frames + 1 ≤ R.frames ∧ 8 + (maxL + 11) + rm.locals ≤ R.locals) :
    vx_CSW R s args own index y bytes maxL ret hh ws rm mc ms n := by
  have ok : ∀ w ∈ va_wsS own index y ws, w.before args s = true := fun w h => ht w (hT w h).1
  have hG : GoodIn Ts ws := fun w h => hT w (by unfold va_wsS; exact List.mem_append_right _ h)
  have hc : Cond.codeWith y bytes maxL ret hh ∈ ws := by rw [hw]; exact List.mem_cons_self
  refine ⟨⟨hrc, hrs, hR.1, hR.2, pay_in ht hG, hc⟩, ht _ (hG _ hc).1, ok _ (by simp [va_wsS]), ⟨hd.1, hd.2.1⟩, fun sig h => ?_, ok _ (by simp [va_wsS]), ok _ (by simp [va_wsS])⟩
  have h2 := hd.2.2
  rw [h] at h2
  exact (Option.some.inj h2).symm
theorem vx_callSW (X : Stand p l e R s m args below meth c T locs cells slots) (hexec : p.tables.exec = Jvm.exec) {own : String} {index : Nat} {y : MethodName} {bytes : ByteArray} {maxL : Nat} {ret : Option FieldType} {hh : List (Nat × Nat × Nat × Nat)}
    (hown : s.vm.findClass own = some m.cls) (hlink : (Cond.methodLink own index y).before args s = true) (hstat : (Cond.static y).before args s = true) (hinit : (Cond.initialized y.cls).before args s = true)
    (hcode : (Cond.codeWith y bytes maxL ret hh).before args s = true) (hy : y.cls ≠ "java/lang/invoke/MethodHandle" ∧ y.cls ≠ "java/lang/invoke/VarHandle")
    {W9 : Nat} {Pre : Pt → Array Value → Prop} {Post : Pt → Array Value → Option Value → Pt → Prop} (hK : Back l R p e below s args y 3 W9 Pre Post)
    {g : JFrame} (hg : g.method = m) (hsize : g.locals.size = c.maxLocals) {argsL rest : List Value} (hlen : ∀ sig, parseMethodDescriptor y.desc = some sig → argsL.length = sig.parameters.length)
    (hstack : g.stack = argsL.reverse ++ rest) (hW : 2 * g.monitorRoom + (rest.map fun v => v.category).sum ≤ W9) (hdg : decode c.code g.pc = .ok (.invokestatic index, 3))
    (hpre : ∀ vm₁, s.WarmedH vm₁ → Pre ⟨T.setVm vm₁, locs, cells, slots⟩ argsL.toArray) :
    ∃ (v : Option Value) (vm₁ : Vm) (B : Pt), s.WarmedH vm₁ ∧ Stand p l e R s m args below meth c B.U B.locs B.cells B.slots ∧ Post ⟨T.setVm vm₁, locs, cells, slots⟩ argsL.toArray v B ∧
      ∀ target, Steps p.tables e below (B.U.setTop { g with pc := g.pc + 3, stack := v.toList ++ rest }) target → Steps p.tables e below (T.setTop g) target := by
  obtain ⟨mk, methM, cM, hnamed, hmethM, -, -, -, -, -, -, hsigM⟩ := Cond.codeWith_spec hcode
  have hstatic : methM.isStatic = true := Cond.static_spec hnamed hmethM hstat
  obtain ⟨kP, hkP, -⟩ := className_of_methodNamed hnamed
  have hinitP : kP.init = .initialized := Cond.initialized_spec (findClass_of_methodNamed hnamed) hkP hinit
  obtain ⟨vm₁, X₁, hstep₁⟩ := X.invokestatic hexec hown hlink hnamed hmethM hstatic hkP hinitP hy (g := g) hg (argsL := argsL) (rest := rest) (hlen _ hsigM) hstack hdg
  obtain ⟨v, B, X', hpost, hsteps⟩ := hK m meth c ⟨T.setVm vm₁, locs, cells, slots⟩ { g with stack := rest } (.invokestatic index) mk argsL.toArray X₁ hg hsize hdg hW (X₁.named hnamed) (hpre vm₁ X₁.warmed)
  exact ⟨v, vm₁, B, X₁.warmed, X', hpost, fun target h => hstep₁ _ fun acts => by rw [doInvoke_state]; exact hsteps.trans h⟩
theorem vx_runSW {y : MethodName} {bytes cc : ByteArray} {maxL nL mc ms n index : Nat} {ret : Option FieldType} {hh : List (Nat × Nat × Nat × Nat)} {ws : List Cond} {rm : Room} {Pc : Array Value → State → Prop} {Qc : Array Value → State → Outcome → State → Prop} {free : Addr → Prop} {Ts : List Cond} {own : String} {As rest : List Value} {g : JFrame}
    (S : CallFix p m c cc nL s args Ts own) (hM : Met l y ws rm Pc Qc mc ms free) (cw : vx_CSW R s args own index y bytes maxL ret hh ws rm mc ms n) (hp : PreS s H Pc As)
    (hg : g.method = m) (hn : As.length = n) (hsize : g.locals.size = nL) (hstack : g.stack = As.reverse ++ rest) (hW : 2 * g.monitorRoom + (rest.map fun v => v.category).sum ≤ 8) (hdg : decode cc g.pc = .ok (.invokestatic index, 3)) (hf : cells + mc ≤ R.cells ∧ slots + ms ≤ R.slots) :
    va_Run p l e R s m args below meth c H locs cells slots mc ms g rest (Qc As.toArray) (free) := by
  obtain ⟨⟨hrc, hrs, hfr, hlo, hws, hcw⟩, hcode, hini, hy, hlen, hl, hstt⟩ := cw
  have hK : Back l R p e below s args y 3 8 (PreOf R mc ms Pc) (PostOf Qc mc ms free) := va_backW (hh := hh) (bytes := bytes) (maxL := maxL) (ret := ret) hM hp.1 hrc hrs hfr hlo hws hcw (fun a' U hW => word_at hW (Or.inl (by first | rfl | simp [Cond.onTables, Cond.keeps, Cond.steady])) hini)
  obtain ⟨hx, hb, hml, ho, -⟩ := S
  intro T hT X
  obtain ⟨v, vm₁, ⟨U', l2, c2, s2⟩, hW₁, X', ⟨g', mk, t, L, e1, e2, hq, h1, hL, h2, h3⟩, st⟩ := vx_callSW X hx (hh := hh) (bytes := bytes) (maxL := maxL) (ret := ret) ho hl hstt hini hcode hy hK hg (hsize.trans hml.symm) (argsL := As) (rest := rest) (fun sig h => hn.trans (hlen sig h)) hstack hW (by rw [hb]; exact hdg)
    (fun vm₁ hW₁ => ⟨hf.1, hf.2, hp.2 (T.setVm vm₁) hT hW₁⟩)
  dsimp only [Pt.U, Pt.locs, Pt.cells, Pt.slots] at X' e1 e2 h1 h2 h3 st
  subst h1; subst h2; subst h3
  exact ⟨v, (T.setVm vm₁).calling g' mk As.toArray, t, U', L, hT, X', hL, e1, e2, hq, st⟩
/-- not caught here, past rows that name other classes: it goes on to the caller -/
theorem vx_outP {p : Program} {l : Launch} {e : Env} {R : Room} {s : State} {m : MethodId} {args : Array Value} {below : List Frame} {meth : Method} {c : Code} {H : Heap} {locs : List Loc} {cells slots : Nat} {free : Addr → Prop} {ls : Array Slot} {rest : List Value} {Qc : Array Value → State → Outcome → State → Prop} {XC : String → State → State → Prop}
    {pc : Nat} {own E : String} {ce : Cell} {q : Addr} {mc ms : Nat} (hown : s.vm.findClass own = some m.cls) (hlocks : meth.locks = false)
    (hpass : ∀ z ∈ c.exceptionTable.toList, covers z pc = false ∨ (z.catchType ≠ 0 ∧ ∃ nm : String, (Cond.classLink own z.catchType nm).before args s = true ∧ va_Nc E nm s)) (hcell : H[q]? = some ce) (hv : ce.vm = .none) (hcl : s.vm.findClass E = some ce.cls)
    (hx : ∀ t : State, t.heap = H → s.vm.Alike t.vm → XC E s t) (hf : ∀ z ∈ locs, free z.base) (hc : cells ≤ mc) (hs : slots ≤ ms) :
    vx_W p l e R s m args below meth c H locs cells slots (vx_MQ below Qc XC args s mc ms free) (F0 m pc ls rest) q := by
  intro T hT X
  have hpl : e.platform.magicAccessors = ({} : Platform).magicAccessors := by rw [X.admits.platform]
  obtain ⟨vm', hW', X', st⟩ := X.outThrough hlocks q (g := F0 m pc ls rest) rfl rfl rfl (cell := ce) (by rw [hT]; exact hcell) (by rw [hv]; rfl)
    (by obtain ⟨k9, h9, -⟩ := Vm.findClass_spec hcl; exact ⟨k9, h9⟩) (fun z hz => by
      rcases hpass z hz with h | ⟨hz0, nm, hl1, hn1⟩
      · exact Or.inl h
      · obtain ⟨c6, hc6, hcl6⟩ := Cond.classLink_spec hown hl1 e.platform hpl
        obtain ⟨a8, b8, h1, h2, h3⟩ := hn1
        cases Option.some.inj (h1.symm.trans hcl)
        cases Option.some.inj (h2.symm.trans hc6)
        exact Or.inr ⟨hz0, _, hcl6, h3⟩)
  obtain ⟨g₀, hfr⟩ := X'.frames_eq
  have hcell9 : ((T.setVm vm').setFrames (.throwing q :: below)).heap[q]? = some ce := by
    show T.heap[q]? = some ce
    rw [hT]; exact hcell
  have hend : Ended ((T.setVm vm').setFrames (.throwing q :: below)) below (.threw q) := State.frames_setFrames _ (State.cur_lt_of_frames hfr)
  refine ⟨(T.setVm vm').setFrames (.throwing q :: below), ?_, .threw q, X'.here.running, hend, Or.inr ⟨q, rfl, E, ce, locs, hx _ hT (X'.ends _).1.alike, hcell9, hv, hcl, (X'.ends _).1, (X'.ends _).2.mono hc hs, hf⟩⟩
  rw [X.pushThrowing_eq]
  exact st
/-- a thing of a world lies in the heap -/
theorem vx_lt {D : va_G} {cl : List vw_C} {ws : va_W} {H1 : Heap} (h : va_P D cl ws H1) {k : Nat} {q : Nat × va_E} (hk : ws[k]? = some q) : q.1 < H1.size := (h k q hk).lt
end VXS
/-! ===== END ===== -/
/-! ===== BEGIN methods with a table of their own: called by a name, returning or throwing ===== -/
section VXH
/-! vx_backW, vx_callVX, vx_callSX, vx_callVW, vx_runVW, vx_runVX, vx_runSX, vx_ofWH follow the same proofs as their sisters above (Free/Laws.lean, Shelf42/LK1.lean); vx_outP calls Shelf42/NT130.lean (outThrough). -/
section
variable {l : Launch} {R : Room} {p : Program} {e : Env} {below : List Frame} {s : State} {sargs : Array Value} {y : MethodName} {len W9 : Nat}
theorem vx_backW {ws : List Cond} {rm : Room} {Pc : Array Value → State → Prop} {Qc : Array Value → State → Outcome → State → Prop} {XC : String → State → State → Prop} {mc ms : Nat} {free : Addr → Prop} {bytes : ByteArray} {maxL : Nat} {ret : Option FieldType} {hh : List (Nat × Nat × Nat × Nat)}
    (hM : vx_Met l y ws rm Pc Qc XC mc ms free) (hblind : FrameBlind Pc) (hrc : rm.cells = mc) (hrs : rm.slots = ms)
    (hframes : rm.frames + 1 ≤ R.frames) (hlocals : W9 + (maxL + 11) + rm.locals ≤ R.locals)
    (hws : ∀ w ∈ ws, ∀ a' U, s.WarmedH U.vm → w.before a' U = true) (hcode : Cond.codeWith y bytes maxL ret hh ∈ ws) (hinit : ∀ a' U, s.WarmedH U.vm → (Cond.initialized y.cls).before a' U = true) :
    vx_Back l R p e below s sargs y len W9 (PreOf R mc ms Pc) (PostOf Qc mc ms free) (vx_Post XC mc ms free) := by
  intro m meth c A g ig mk a X hg hsize hdg hW hn hp
  have h1 : (headSpec ws rm).pre.before a A.U = true := atoms_intro fun w hw => hws w hw _ _ X.warmed
  have h2 : (Cond.codeWith y bytes maxL ret hh).before a A.U = true := hws _ hcode _ _ X.warmed
  have h3 : (Cond.initialized y.cls).before a A.U = true := hinit _ _ X.warmed
  have h4 : A.cells + (headSpec ws rm).room.cells ≤ R.cells := by rw [show (headSpec ws rm).room.cells = mc from hrc]; exact hp.1
  have h5 : A.slots + (headSpec ws rm).room.slots ≤ R.slots := by rw [show (headSpec ws rm).room.slots = ms from hrs]; exact hp.2.1
  have hPc : Pc a (A.U.calling g mk a) := hblind _ _ _ _ hp.2.2
  obtain ⟨U, Ls, c0, s0⟩ := A
  dsimp only [Pt.U, Pt.locs, Pt.cells, Pt.slots] at h1 h2 h3 h4 h5 X hn hPc ⊢
  obtain ⟨m9, methY, cY, hn9, hmY, hcY, -, hlY, -⟩ := Cond.codeWith_spec h2
  cases Option.some.inj (hn9.symm.trans hn)
  obtain ⟨kY, hkY, -⟩ := className_of_methodNamed hn
  have hinitY : kY.init = .initialized := Cond.initialized_spec (findClass_of_methodNamed hn) hkY h3
  have h : At U g.method c below := by rw [hg]; exact X.here
  have hlocals9 : W9 + (maxL + 11) + (headSpec ws rm).room.locals ≤ R.locals := hlocals
  have happ : (headSpec ws rm).appliesLoose y e.platform (U.calling g mk a) = true :=
    Spec.appliesLoose_calling (g := g) h hdg hn hkY hinitY
      (X.room_calling (g := g) (R' := (headSpec ws rm).room) hsize hmY hcY hframes (by rw [hlY]; omega) h4 h5) h1
  obtain ⟨mid, hmid⟩ := h.above
  have hfr : (U.setTop g).frames = (.java g :: mid) ++ below := by rw [State.frames_setTop' g h.top, hmid]; rfl
  obtain ⟨o, s₂, hsteps, -, hend, hq⟩ := Steps.callFree hM p X.admits X.cas X.clock (acts := []) hfr happ hPc trivial
  have hq' : vx_Q Qc XC mc ms free a (U.calling g mk a) o s₂ := hq
  rw [State.frames_setTop' g h.top] at hend
  obtain ⟨g₀, hg0⟩ := Option.isSome_iff_exists.mp h.top
  obtain ⟨r, hr⟩ := State.topJava?_eq_some.mp hg0
  have hr' : (({ U with heap := s₂.heap, slotsUsed := s₂.slotsUsed } : State).setVm s₂.vm).frames = .java g₀ :: r := hr
  rcases hq' with ⟨hqc, L, hfe, hL⟩ | ⟨q, rfl, E, ce, L, hx, hce, hcv, hcl, hW₂, hsm, hL⟩
  · obtain ⟨⟨v, rfl⟩, hW₂, e2, q2, q3, q4, q5, q6⟩ := id hfe
    have e3 : s₂ = ({ (U.calling g mk a).setFrames s₂.frames with heap := s₂.heap, slotsUsed := s₂.slotsUsed } : State).setVm s₂.vm := by
      have : s₂ = ({ s₂ with vm := (U.calling g mk a).vm } : State).setVm s₂.vm := rfl
      rw [e2] at this
      exact this
    obtain ⟨c₂, i₂, len₂, hc₂, hd₂, hf₂⟩ := hend
    have hW' : U.WarmedH s₂.vm := hW₂
    have hcc : c₂ = c := by
      have h1 : s₂.code? g.method = U.code? g.method := by
        rw [State.code?_eq, State.code?_eq, hW'.alike.method?]
      exact Option.some.inj (hc₂.symm.trans (h1.trans h.code))
    subst hcc
    have hlen : len₂ = len := by rw [hdg] at hd₂; cases hd₂; rfl
    subst hlen
    have hs₂ : s₂ = (({ U with heap := s₂.heap, slotsUsed := s₂.slotsUsed } : State).setVm s₂.vm).setTop { g with pc := g.pc + len₂, stack := v.toList ++ g.stack } := by
      refine e3.trans ?_
      rw [hf₂, State.calling_eq h.top, State.setFrames_setFrames, State.setTop_of_frames _ hr', hr]
      rfl
    have hsame : U.sameButNew ({ U with heap := s₂.heap, slotsUsed := s₂.slotsUsed } : State) L mc ms := by
      refine ⟨?_, q2, q3, q4, q5, q6⟩
      obtain ⟨t, ht, -⟩ := State.frames_cons hr
      show ({ U with heap := s₂.heap, slotsUsed := s₂.slotsUsed } : State) = { U.setFrames U.frames with heap := s₂.heap, slotsUsed := s₂.slotsUsed }
      rw [State.setFrames_self ht]
    subst hg
    refine Or.inl ⟨v, ⟨(({ U with heap := s₂.heap, slotsUsed := s₂.slotsUsed } : State).setVm s₂.vm), Ls ++ L, c0 + mc, s0 + ms⟩,
      ⟨X.admits, X.cas, X.clock, X.frames, X.room, X.hears, X.method, X.code, (X.here.setHeapUsed s₂.heap s₂.slotsUsed).setVm hW'.alike, X.tail, State.WarmedH.trans X.warmed hW', X.limits, X.bytes, X.same.trans (hsame.setVm s.vm)⟩,
      ⟨g, mk, s₂, L, rfl, rfl, hqc, rfl, hL, rfl, rfl⟩, ?_⟩
    show Steps p.tables e below _ ((({ U with heap := s₂.heap, slotsUsed := s₂.slotsUsed } : State).setVm s₂.vm).setTop { g with pc := g.pc + len₂, stack := v.toList ++ g.stack })
    rw [← hs₂]
    exact hsteps
  · obtain ⟨e2, q2, q3, q4, q5, q6⟩ := id hsm
    have e3 : s₂ = ({ (U.calling g mk a).setFrames s₂.frames with heap := s₂.heap, slotsUsed := s₂.slotsUsed } : State).setVm s₂.vm := by
      have : s₂ = ({ s₂ with vm := (U.calling g mk a).vm } : State).setVm s₂.vm := rfl
      rw [e2] at this
      exact this
    have hf₂ : s₂.frames = .throwing q :: .java g :: U.frames.tail := hend
    have hW' : U.WarmedH s₂.vm := hW₂
    have hs₂ : s₂ = ((({ U with heap := s₂.heap, slotsUsed := s₂.slotsUsed } : State).setVm s₂.vm).setTop g).pushFrame (.throwing q) := by
      refine e3.trans ?_
      rw [hf₂, State.calling_eq h.top, State.setFrames_setFrames, State.pushFrame, State.frames_setTop _ hr', State.setTop_of_frames _ hr', State.setFrames_setFrames, hr]
      rfl
    have hsame : U.sameButNew ({ U with heap := s₂.heap, slotsUsed := s₂.slotsUsed } : State) L mc ms := by
      refine ⟨?_, q2, q3, q4, q5, q6⟩
      obtain ⟨t, ht, -⟩ := State.frames_cons hr
      show ({ U with heap := s₂.heap, slotsUsed := s₂.slotsUsed } : State) = { U.setFrames U.frames with heap := s₂.heap, slotsUsed := s₂.slotsUsed }
      rw [State.setFrames_self ht]
    subst hg
    refine Or.inr ⟨q, ⟨(({ U with heap := s₂.heap, slotsUsed := s₂.slotsUsed } : State).setVm s₂.vm), Ls ++ L, c0 + mc, s0 + ms⟩,
      ⟨X.admits, X.cas, X.clock, X.frames, X.room, X.hears, X.method, X.code, (X.here.setHeapUsed s₂.heap s₂.slotsUsed).setVm hW'.alike, X.tail, State.WarmedH.trans X.warmed hW', X.limits, X.bytes, X.same.trans (hsame.setVm s.vm)⟩,
      ⟨g, mk, s₂, L, E, ce, rfl, rfl, hx, hce, hcv, hcl, rfl, hL, rfl, rfl⟩, ?_⟩
    show Steps p.tables e below _ (((({ U with heap := s₂.heap, slotsUsed := s₂.slotsUsed } : State).setVm s₂.vm).setTop g).pushFrame (.throwing q))
    rw [← hs₂]
    exact hsteps
end
variable {p : Program} {l : Launch} {e : Env} {R : Room} {s : State} {m : MethodId} {args : Array Value} {below : List Frame} {meth : Method} {c : Code} {T : State} {H : Heap} {locs : List Loc} {cells slots : Nat}
theorem vx_callVX (X : Stand p l e R s m args below meth c T locs cells slots) (hexec : p.tables.exec = Jvm.exec) {own C : String} {index : Nat} {y : MethodName} {bytes : ByteArray} {maxL : Nat} {ret : Option FieldType} {hh : List (Nat × Nat × Nat × Nat)}
    (hown : s.vm.findClass own = some m.cls) (hlink : (Cond.methodLink own index y).before args s = true) (hinst : (Cond.instanceMethod y).before args s = true) (hsel : (Cond.selects C y y).before args s = true)
    (hcode : (Cond.codeWith y bytes maxL ret hh).before args s = true) (hy : y.cls ≠ "java/lang/invoke/MethodHandle" ∧ y.cls ≠ "java/lang/invoke/VarHandle")
    {W9 : Nat} {Pre : Pt → Array Value → Prop} {Post : Pt → Array Value → Option Value → Pt → Prop} {PostX : Pt → Array Value → Addr → Pt → Prop} (hK : vx_Back l R p e below s args y 3 W9 Pre Post PostX)
    {b : Addr} {cellB : Cell} (hcell : T.heap[b]? = some cellB) (hobj : cellB.vm.isStatics = false) (hcls : s.vm.findClass C = some cellB.cls)
    {g : JFrame} (hg : g.method = m) (hsize : g.locals.size = c.maxLocals) {argsL rest : List Value} (hlen : ∀ sig, parseMethodDescriptor y.desc = some sig → argsL.length = sig.parameters.length)
    (hstack : g.stack = argsL.reverse ++ .ref b :: rest) (hW : 2 * g.monitorRoom + (rest.map fun v => v.category).sum ≤ W9) (hdg : decode c.code g.pc = .ok (.invokevirtual index, 3))
    (hpre : ∀ vm₁, s.WarmedH vm₁ → Pre ⟨T.setVm vm₁, locs, cells, slots⟩ (Value.ref b :: argsL).toArray) :
    (∃ (v : Option Value) (vm₁ : Vm) (B : Pt), s.WarmedH vm₁ ∧ Stand p l e R s m args below meth c B.U B.locs B.cells B.slots ∧ Post ⟨T.setVm vm₁, locs, cells, slots⟩ (Value.ref b :: argsL).toArray v B ∧
      ∀ target, Steps p.tables e below (B.U.setTop { g with pc := g.pc + 3, stack := v.toList ++ rest }) target → Steps p.tables e below (T.setTop g) target) ∨
    (∃ (q : Addr) (vm₁ : Vm) (B : Pt), s.WarmedH vm₁ ∧ Stand p l e R s m args below meth c B.U B.locs B.cells B.slots ∧ PostX ⟨T.setVm vm₁, locs, cells, slots⟩ (Value.ref b :: argsL).toArray q B ∧
      Steps p.tables e below (T.setTop g) ((B.U.setTop { g with stack := rest }).pushFrame (.throwing q))) := by
  obtain ⟨mk, methM, hnamed, hmethM, hstM, habM⟩ := Cond.instanceMethod_spec hinst
  obtain ⟨m8, methM', cM, hn8, hmethM', -, -, -, -, -, -, hsigM⟩ := Cond.codeWith_spec hcode
  cases Option.some.inj (hn8.symm.trans hnamed)
  cases hmethM.symm.trans hmethM'
  obtain ⟨c2, r2, m2, q1, q2, q3, q4, kP, hkP, hkPi⟩ := Cond.selects_spec hsel
  cases hcls.symm.trans q1
  cases (State.methodFound?_of_named hnamed hy).symm.trans q2
  cases hnamed.symm.trans q3
  have hselP : selectMethod e.platform s.vm cellB.cls mk = .method mk := by rw [Launch.admits_selectMethod X.admits]; exact q4
  obtain ⟨vm₁, X₁, hstep₁⟩ := X.invokevirtual hexec hown hlink hnamed hmethM hstM hkP hkPi hy (a := b) (cell := cellB) hcell
    (fun z h => by rw [h] at hobj; cases hobj) hselP hmethM habM hkP hkPi (g := g) hg (argsL := argsL) (rest := rest) (hlen _ hsigM) hstack hdg
  rcases hK m meth c ⟨T.setVm vm₁, locs, cells, slots⟩ { g with stack := rest } (.invokevirtual index) mk (Value.ref b :: argsL).toArray X₁ hg hsize hdg hW (X₁.named hnamed) (hpre vm₁ X₁.warmed) with ⟨v, B, X', hpost, hsteps⟩ | ⟨q, B, X', hpost, hsteps⟩
  · exact Or.inl ⟨v, vm₁, B, X₁.warmed, X', hpost, fun target h => hstep₁ _ fun acts => by rw [doInvoke_state]; exact hsteps.trans h⟩
  · exact Or.inr ⟨q, vm₁, B, X₁.warmed, X', hpost, hstep₁ _ fun acts => by rw [doInvoke_state]; exact hsteps⟩
theorem vx_callSX (X : Stand p l e R s m args below meth c T locs cells slots) (hexec : p.tables.exec = Jvm.exec) {own : String} {index : Nat} {y : MethodName} {bytes : ByteArray} {maxL : Nat} {ret : Option FieldType} {hh : List (Nat × Nat × Nat × Nat)}
    (hown : s.vm.findClass own = some m.cls) (hlink : (Cond.methodLink own index y).before args s = true) (hstat : (Cond.static y).before args s = true) (hinit : (Cond.initialized y.cls).before args s = true)
    (hcode : (Cond.codeWith y bytes maxL ret hh).before args s = true) (hy : y.cls ≠ "java/lang/invoke/MethodHandle" ∧ y.cls ≠ "java/lang/invoke/VarHandle")
    {W9 : Nat} {Pre : Pt → Array Value → Prop} {Post : Pt → Array Value → Option Value → Pt → Prop} {PostX : Pt → Array Value → Addr → Pt → Prop} (hK : vx_Back l R p e below s args y 3 W9 Pre Post PostX)
    {g : JFrame} (hg : g.method = m) (hsize : g.locals.size = c.maxLocals) {argsL rest : List Value} (hlen : ∀ sig, parseMethodDescriptor y.desc = some sig → argsL.length = sig.parameters.length)
    (hstack : g.stack = argsL.reverse ++ rest) (hW : 2 * g.monitorRoom + (rest.map fun v => v.category).sum ≤ W9) (hdg : decode c.code g.pc = .ok (.invokestatic index, 3))
    (hpre : ∀ vm₁, s.WarmedH vm₁ → Pre ⟨T.setVm vm₁, locs, cells, slots⟩ argsL.toArray) :
    (∃ (v : Option Value) (vm₁ : Vm) (B : Pt), s.WarmedH vm₁ ∧ Stand p l e R s m args below meth c B.U B.locs B.cells B.slots ∧ Post ⟨T.setVm vm₁, locs, cells, slots⟩ argsL.toArray v B ∧
      ∀ target, Steps p.tables e below (B.U.setTop { g with pc := g.pc + 3, stack := v.toList ++ rest }) target → Steps p.tables e below (T.setTop g) target) ∨
    (∃ (q : Addr) (vm₁ : Vm) (B : Pt), s.WarmedH vm₁ ∧ Stand p l e R s m args below meth c B.U B.locs B.cells B.slots ∧ PostX ⟨T.setVm vm₁, locs, cells, slots⟩ argsL.toArray q B ∧
      Steps p.tables e below (T.setTop g) ((B.U.setTop { g with stack := rest }).pushFrame (.throwing q))) := by
  obtain ⟨mk, methM, cM, hnamed, hmethM, -, -, -, -, -, -, hsigM⟩ := Cond.codeWith_spec hcode
  have hstatic : methM.isStatic = true := Cond.static_spec hnamed hmethM hstat
  obtain ⟨kP, hkP, -⟩ := className_of_methodNamed hnamed
  have hinitP : kP.init = .initialized := Cond.initialized_spec (findClass_of_methodNamed hnamed) hkP hinit
  obtain ⟨vm₁, X₁, hstep₁⟩ := X.invokestatic hexec hown hlink hnamed hmethM hstatic hkP hinitP hy (g := g) hg (argsL := argsL) (rest := rest) (hlen _ hsigM) hstack hdg
  rcases hK m meth c ⟨T.setVm vm₁, locs, cells, slots⟩ { g with stack := rest } (.invokestatic index) mk argsL.toArray X₁ hg hsize hdg hW (X₁.named hnamed) (hpre vm₁ X₁.warmed) with ⟨v, B, X', hpost, hsteps⟩ | ⟨q, B, X', hpost, hsteps⟩
  · exact Or.inl ⟨v, vm₁, B, X₁.warmed, X', hpost, fun target h => hstep₁ _ fun acts => by rw [doInvoke_state]; exact hsteps.trans h⟩
  · exact Or.inr ⟨q, vm₁, B, X₁.warmed, X', hpost, hstep₁ _ fun acts => by rw [doInvoke_state]; exact hsteps⟩
theorem vx_callVW (X : Stand p l e R s m args below meth c T locs cells slots) (hexec : p.tables.exec = Jvm.exec) {own C : String} {index : Nat} {y : MethodName} {bytes : ByteArray} {maxL : Nat} {ret : Option FieldType} {hh : List (Nat × Nat × Nat × Nat)}
    (hown : s.vm.findClass own = some m.cls) (hlink : (Cond.methodLink own index y).before args s = true) (hinst : (Cond.instanceMethod y).before args s = true) (hsel : (Cond.selects C y y).before args s = true)
    (hcode : (Cond.codeWith y bytes maxL ret hh).before args s = true) (hy : y.cls ≠ "java/lang/invoke/MethodHandle" ∧ y.cls ≠ "java/lang/invoke/VarHandle")
    {W9 : Nat} {Pre : Pt → Array Value → Prop} {Post : Pt → Array Value → Option Value → Pt → Prop} (hK : Back l R p e below s args y 3 W9 Pre Post)
    {b : Addr} {cellB : Cell} (hcell : T.heap[b]? = some cellB) (hobj : cellB.vm.isStatics = false) (hcls : s.vm.findClass C = some cellB.cls)
    {g : JFrame} (hg : g.method = m) (hsize : g.locals.size = c.maxLocals) {argsL rest : List Value} (hlen : ∀ sig, parseMethodDescriptor y.desc = some sig → argsL.length = sig.parameters.length)
    (hstack : g.stack = argsL.reverse ++ .ref b :: rest) (hW : 2 * g.monitorRoom + (rest.map fun v => v.category).sum ≤ W9) (hdg : decode c.code g.pc = .ok (.invokevirtual index, 3))
    (hpre : ∀ vm₁, s.WarmedH vm₁ → Pre ⟨T.setVm vm₁, locs, cells, slots⟩ (Value.ref b :: argsL).toArray) :
    ∃ (v : Option Value) (vm₁ : Vm) (B : Pt), s.WarmedH vm₁ ∧ Stand p l e R s m args below meth c B.U B.locs B.cells B.slots ∧ Post ⟨T.setVm vm₁, locs, cells, slots⟩ (Value.ref b :: argsL).toArray v B ∧
      ∀ target, Steps p.tables e below (B.U.setTop { g with pc := g.pc + 3, stack := v.toList ++ rest }) target → Steps p.tables e below (T.setTop g) target := by
  obtain ⟨mk, methM, hnamed, hmethM, hstM, habM⟩ := Cond.instanceMethod_spec hinst
  obtain ⟨m8, methM', cM, hn8, hmethM', -, -, -, -, -, -, hsigM⟩ := Cond.codeWith_spec hcode
  cases Option.some.inj (hn8.symm.trans hnamed)
  cases hmethM.symm.trans hmethM'
  obtain ⟨c2, r2, m2, q1, q2, q3, q4, kP, hkP, hkPi⟩ := Cond.selects_spec hsel
  cases hcls.symm.trans q1
  cases (State.methodFound?_of_named hnamed hy).symm.trans q2
  cases hnamed.symm.trans q3
  have hselP : selectMethod e.platform s.vm cellB.cls mk = .method mk := by rw [Launch.admits_selectMethod X.admits]; exact q4
  obtain ⟨vm₁, X₁, hstep₁⟩ := X.invokevirtual hexec hown hlink hnamed hmethM hstM hkP hkPi hy (a := b) (cell := cellB) hcell
    (fun z h => by rw [h] at hobj; cases hobj) hselP hmethM habM hkP hkPi (g := g) hg (argsL := argsL) (rest := rest) (hlen _ hsigM) hstack hdg
  obtain ⟨v, B, X', hpost, hsteps⟩ := hK m meth c ⟨T.setVm vm₁, locs, cells, slots⟩ { g with stack := rest } (.invokevirtual index) mk (Value.ref b :: argsL).toArray X₁ hg hsize hdg hW (X₁.named hnamed) (hpre vm₁ X₁.warmed)
  exact ⟨v, vm₁, B, X₁.warmed, X', hpost, fun target h => hstep₁ _ fun acts => by rw [doInvoke_state]; exact hsteps.trans h⟩
abbrev vx_CVW (R : Room) (s : State) (args : Array Value) (own C : String) (index : Nat) (y : MethodName) (bytes : ByteArray) (maxL : Nat) (ret : Option FieldType) (hh : List (Nat × Nat × Nat × Nat)) (ws : List Cond) (rm : Room) (mc ms n : Nat) : Prop :=
  (rm.cells = mc ∧ rm.slots = ms ∧ rm.frames + 1 ≤ R.frames ∧ 8 + (maxL + 11) + rm.locals ≤ R.locals ∧ (∀ w ∈ ws, ∀ (a' : Array Value) (U : State), s.WarmedH U.vm → w.before a' U = true) ∧ Cond.codeWith y bytes maxL ret hh ∈ ws) ∧
  (Cond.codeWith y bytes maxL ret hh).before args s = true ∧ (Cond.initialized y.cls).before args s = true ∧ (y.cls ≠ "java/lang/invoke/MethodHandle" ∧ y.cls ≠ "java/lang/invoke/VarHandle") ∧
  (∀ sig, parseMethodDescriptor y.desc = some sig → n = sig.parameters.length) ∧ (Cond.methodLink own index y).before args s = true ∧ (Cond.instanceMethod y).before args s = true ∧ (Cond.selects C y y).before args s = true
theorem vx_cwVW {own C : String} {index maxL mc ms : Nat} {y : MethodName} {bytes : ByteArray} {ret : Option FieldType} {hh : List (Nat × Nat × Nat × Nat)} {Ts ws ws' : List Cond} {rm : Room} (n : Nat) (ht : ∀ w ∈ Ts, w.before args s = true) (hT : GoodIn Ts (wsV own index C y ws)) (hw : ws = Cond.codeWith y bytes maxL ret hh :: ws') (hrc : rm.cells = mc) (hrs : rm.slots = ms)
    (hd : y.cls = C ∧ y.cls ≠ "java/lang/invoke/MethodHandle" ∧ y.cls ≠ "java/lang/invoke/VarHandle" ∧ (parseMethodDescriptor y.desc).map (fun d => d.parameters.length) = some n) (hR : rm.frames + 1 ≤ R.frames ∧ 8 + (maxL + 11) + rm.locals ≤ R.locals) :
    vx_CVW R s args own C index y bytes maxL ret hh ws rm mc ms n := by
  obtain ⟨hC, hd⟩ := hd
  subst hC
  have ok : ∀ w ∈ wsV own index y.cls y ws, w.before args s = true := fun w h => ht w (hT w h).1
  have hG : GoodIn Ts ws := fun w h => hT w (by unfold wsV; exact List.mem_append_right _ h)
  have hc : Cond.codeWith y bytes maxL ret hh ∈ ws := by rw [hw]; exact List.mem_cons_self
  refine ⟨⟨hrc, hrs, hR.1, hR.2, pay_in ht hG, hc⟩, ht _ (hG _ hc).1, ok _ (by simp [wsV]), ⟨hd.1, hd.2.1⟩, fun sig h => ?_, ok _ (by simp [wsV]), ok _ (by simp [wsV]), ok _ (by simp [wsV])⟩
  have h2 := hd.2.2
  rw [h] at h2
  exact (Option.some.inj h2).symm
theorem vx_runVW {y : MethodName} {bytes cc : ByteArray} {maxL nL mc ms n index : Nat} {ret : Option FieldType} {hh : List (Nat × Nat × Nat × Nat)} {ws : List Cond} {rm : Room} {Pc : Array Value → State → Prop} {Qc : Array Value → State → Outcome → State → Prop} {free : Addr → Prop} {Ts : List Cond} {own C : String} {b : Addr} {As rest : List Value} {g : JFrame}
    (S : CallFix p m c cc nL s args Ts own) (hM : Met l y ws rm Pc Qc mc ms free) (cw : vx_CVW R s args own C index y bytes maxL ret hh ws rm mc ms n) (hp : PreV s H C b Pc As)
    (hg : g.method = m) (hn : As.length = n) (hsize : g.locals.size = nL) (hstack : g.stack = As.reverse ++ .ref b :: rest) (hW : 2 * g.monitorRoom + (rest.map fun v => v.category).sum ≤ 8) (hdg : decode cc g.pc = .ok (.invokevirtual index, 3)) (hf : cells + mc ≤ R.cells ∧ slots + ms ≤ R.slots) :
    va_Run p l e R s m args below meth c H locs cells slots mc ms g rest (Qc (Value.ref b :: As).toArray) free := by
  obtain ⟨⟨hrc, hrs, hfr, hlo, hws, hcw⟩, hcode, hini, hy, hlen, hl, hin, hse⟩ := cw
  have hK : Back l R p e below s args y 3 8 (PreOf R mc ms Pc) (PostOf Qc mc ms free) := va_backW (hh := hh) (bytes := bytes) (maxL := maxL) (ret := ret) hM hp.1 hrc hrs hfr hlo hws hcw (fun a' U hW => word_at hW (Or.inl (by first | rfl | simp [Cond.onTables, Cond.keeps, Cond.steady])) hini)
  obtain ⟨hx, hb, hml, ho, -⟩ := S
  obtain ⟨-, ⟨cellB, hcB, hoB, hclB⟩, hPc⟩ := hp
  intro T hT X
  obtain ⟨v, vm₁, ⟨U', l2, c2, s2⟩, hW₁, X', ⟨g', mk, t, L, e1, e2, hq, h1, hL, h2, h3⟩, st⟩ := vx_callVW X hx (C := C) (hh := hh) (bytes := bytes) (maxL := maxL) (ret := ret) ho hl hin hse hcode hy hK (by rw [hT]; exact hcB) hoB hclB hg (hsize.trans hml.symm) (argsL := As) (rest := rest) (fun sig h => hn.trans (hlen sig h)) hstack hW (by rw [hb]; exact hdg)
    (fun vm₁ hW₁ => ⟨hf.1, hf.2, hPc (T.setVm vm₁) hT hW₁⟩)
  dsimp only [Pt.U, Pt.locs, Pt.cells, Pt.slots] at X' e1 e2 h1 h2 h3 st
  subst h1; subst h2; subst h3
  exact ⟨v, (T.setVm vm₁).calling g' mk (Value.ref b :: As).toArray, t, U', L, hT, X', hL, e1, e2, hq, st⟩
section
variable {y : MethodName} {bytes cc : ByteArray} {maxL nL mc ms n index : Nat} {ret : Option FieldType} {ws : List Cond} {rm : Room} {Pc : Array Value → State → Prop} {Qc : Array Value → State → Outcome → State → Prop} {XC : String → State → State → Prop} {free : Addr → Prop} {Ts : List Cond} {own C : String} {b : Addr} {As rest : List Value} {g : JFrame}
theorem vx_runVX {hh : List (Nat × Nat × Nat × Nat)} (S : CallFix p m c cc nL s args Ts own) (hM : vx_Met l y ws rm Pc Qc XC mc ms free) (cw : vx_CVW R s args own C index y bytes maxL ret hh ws rm mc ms n) (hp : PreV s H C b Pc As)
    (hg : g.method = m) (hn : As.length = n) (hsize : g.locals.size = nL) (hstack : g.stack = As.reverse ++ .ref b :: rest) (hW : 2 * g.monitorRoom + (rest.map fun v => v.category).sum ≤ 8) (hdg : decode cc g.pc = .ok (.invokevirtual index, 3)) (hf : cells + mc ≤ R.cells ∧ slots + ms ≤ R.slots) :
    vx_Run p l e R s m args below meth c H locs cells slots mc ms g rest (Qc (Value.ref b :: As).toArray) XC free := by
  obtain ⟨⟨hrc, hrs, hfr, hlo, hws, hcw⟩, hcode, hini, hy, hlen, hl, hin, hse⟩ := cw
  have hK : vx_Back l R p e below s args y 3 8 (PreOf R mc ms Pc) (PostOf Qc mc ms free) (vx_Post XC mc ms free) := vx_backW (hh := hh) (bytes := bytes) (maxL := maxL) (ret := ret) hM hp.1 hrc hrs hfr hlo hws hcw (fun a' U hW => word_at hW (Or.inl (by first | rfl | simp [Cond.onTables, Cond.keeps, Cond.steady])) hini)
  obtain ⟨hx, hb, hml, ho, -⟩ := S
  obtain ⟨-, ⟨cellB, hcB, hoB, hclB⟩, hPc⟩ := hp
  intro T hT X
  rcases vx_callVX X hx (C := C) (hh := hh) (bytes := bytes) (maxL := maxL) (ret := ret) ho hl hin hse hcode hy hK (by rw [hT]; exact hcB) hoB hclB hg (hsize.trans hml.symm) (argsL := As) (rest := rest) (fun sig h => hn.trans (hlen sig h)) hstack hW (by rw [hb]; exact hdg)
    (fun vm₁ hW₁ => ⟨hf.1, hf.2, hPc (T.setVm vm₁) hT hW₁⟩) with ⟨v, vm₁, ⟨U', l2, c2, s2⟩, hW₁, X', ⟨g', mk, t, L, e1, e2, hq, h1, hL, h2, h3⟩, st⟩ | ⟨q, vm₁, ⟨U', l2, c2, s2⟩, hW₁, X', ⟨g', mk, t, L, E, ce, e1, e2, hq, hce, hcv, hcl, h1, hL, h2, h3⟩, st⟩
  · dsimp only [Pt.U, Pt.locs, Pt.cells, Pt.slots] at X' e1 e2 h1 h2 h3 st
    subst h1; subst h2; subst h3
    exact Or.inl ⟨v, (T.setVm vm₁).calling g' mk (Value.ref b :: As).toArray, t, U', L, hT, X', hL, e1, e2, hq, st⟩
  · dsimp only [Pt.U, Pt.locs, Pt.cells, Pt.slots] at X' e1 e2 h1 h2 h3 st hcl
    subst h1; subst h2; subst h3
    exact Or.inr ⟨q, (T.setVm vm₁).calling g' mk (Value.ref b :: As).toArray, t, U', L, E, ce, hT, X', hL, e1, e2, hq, hce, hcv, vx_cls hW₁ hcl, st⟩
theorem vx_runSX {hh : List (Nat × Nat × Nat × Nat)} (S : CallFix p m c cc nL s args Ts own) (hM : vx_Met l y ws rm Pc Qc XC mc ms free) (cw : vx_CSW R s args own index y bytes maxL ret hh ws rm mc ms n) (hp : PreS s H Pc As)
    (hg : g.method = m) (hn : As.length = n) (hsize : g.locals.size = nL) (hstack : g.stack = As.reverse ++ rest) (hW : 2 * g.monitorRoom + (rest.map fun v => v.category).sum ≤ 8) (hdg : decode cc g.pc = .ok (.invokestatic index, 3)) (hf : cells + mc ≤ R.cells ∧ slots + ms ≤ R.slots) :
    vx_Run p l e R s m args below meth c H locs cells slots mc ms g rest (Qc As.toArray) XC free := by
  obtain ⟨⟨hrc, hrs, hfr, hlo, hws, hcw⟩, hcode, hini, hy, hlen, hl, hstt⟩ := cw
  have hK : vx_Back l R p e below s args y 3 8 (PreOf R mc ms Pc) (PostOf Qc mc ms free) (vx_Post XC mc ms free) := vx_backW (hh := hh) (bytes := bytes) (maxL := maxL) (ret := ret) hM hp.1 hrc hrs hfr hlo hws hcw (fun a' U hW => word_at hW (Or.inl (by first | rfl | simp [Cond.onTables, Cond.keeps, Cond.steady])) hini)
  obtain ⟨hx, hb, hml, ho, -⟩ := S
  intro T hT X
  rcases vx_callSX X hx (hh := hh) (bytes := bytes) (maxL := maxL) (ret := ret) ho hl hstt hini hcode hy hK hg (hsize.trans hml.symm) (argsL := As) (rest := rest) (fun sig h => hn.trans (hlen sig h)) hstack hW (by rw [hb]; exact hdg)
    (fun vm₁ hW₁ => ⟨hf.1, hf.2, hp.2 (T.setVm vm₁) hT hW₁⟩) with ⟨v, vm₁, ⟨U', l2, c2, s2⟩, hW₁, X', ⟨g', mk, t, L, e1, e2, hq, h1, hL, h2, h3⟩, st⟩ | ⟨q, vm₁, ⟨U', l2, c2, s2⟩, hW₁, X', ⟨g', mk, t, L, E, ce, e1, e2, hq, hce, hcv, hcl, h1, hL, h2, h3⟩, st⟩
  · dsimp only [Pt.U, Pt.locs, Pt.cells, Pt.slots] at X' e1 e2 h1 h2 h3 st
    subst h1; subst h2; subst h3
    exact Or.inl ⟨v, (T.setVm vm₁).calling g' mk As.toArray, t, U', L, hT, X', hL, e1, e2, hq, st⟩
  · dsimp only [Pt.U, Pt.locs, Pt.cells, Pt.slots] at X' e1 e2 h1 h2 h3 st hcl
    subst h1; subst h2; subst h3
    exact Or.inr ⟨q, (T.setVm vm₁).calling g' mk As.toArray, t, U', L, E, ce, hT, X', hL, e1, e2, hq, hce, hcv, vx_cls hW₁ hcl, st⟩
end
end VXH
theorem vx_ofWH {l : Launch} {y : MethodName} {ws ws' : List Cond} {rm : Room} {Pc : Array Value → State → Prop} {Qc : Array Value → State → Outcome → State → Prop} {XC : String → State → State → Prop} {mc ms : Nat} {free : Addr → Prop} {cc : ByteArray} {maxL : Nat} {ret : Option FieldType} {hh : List (Nat × Nat × Nat × Nat)}
    (hy : plainName y.cls = true) (hw : ws = Cond.codeWith y cc maxL ret hh :: ws')
    (body : ∀ p e s m args below meth c s₁, BodyLoose p l y (headSpec ws rm) cc maxL ret e s m args below meth c s₁ → c.maxLocals = maxL → Pc args s →
      W p l e (headSpec ws rm).room s m args below meth c s.heap [] 0 0 (vx_MQ below Qc XC args s mc ms free) (entryFrame m args maxL)) : vx_Met l y ws rm Pc Qc XC mc ms free := by
  refine MetFree.of_bodyS (code := cc) (maxLocals := maxL) (ret := ret) hy ?_ ?_
  · intro args s m h hn
    obtain ⟨m9, meth, c, hn9, h1, h2, h3, h4, -, h5, h6, -⟩ := Cond.codeWith_spec (atoms_spec (ws := ws) h _ (by rw [hw]; exact List.mem_cons_self))
    cases hn.symm.trans hn9
    exact ⟨meth, c, h1, h2, h3, h4, h5, h6⟩
  · intro p e s m args below meth c s₁ B hml hP _
    have hh0 : s₁.heap = s.heap := by rw [B.state]; rfl
    obtain ⟨t, a1, o, b1, b2, b3⟩ := body p e s m args below meth c s₁ B hml hP s₁ hh0 (Stand.of_body B)
    exact ⟨t, o, a1, b1, b2, b3⟩
/-! ===== END ===== -/

/-! ===== BEGIN what the machine throws by itself, no traces kept ===== -/
section VXM
set_option maxHeartbeats 1000000 in
/-- the machine throws cls with the message text, no traces kept: from its note over the frame g to 'throwing' over the same frame (follows the proofs of Stand.vmThrowsMessage, Shelf/KitTracedVmS.lean, and Stand.throwsMessageColdBareV, StandMessageColdV.lean, without the step out of the frame) -/
theorem vx_vmAt {p : Program} {l : Launch} {e : Env} {R : Room} {s : State} {m₀ : MethodId} {args : Array Value} {below : List Frame} {meth : Method} {c : Code} {W : State} {locs : List Loc} {cells slots : Nat}
    (X : Stand p l e R s m₀ args below meth c W locs cells slots) (hexec : p.tables.exec = Jvm.exec) (htr : e.platform.stackTraces = false) {cls : String} {names : List String} {text : String}
    (hcls : Bundle.fit cls = true) (hnames : ∀ n ∈ names, Bundle.fit n = true) (hsoe : (cls == "java/lang/StackOverflowError") = false) (hoom : (cls == "java/lang/OutOfMemoryError") = false)
    (h : ∀ a ∈ Bundle.messageArmAtoms cls names, a.before args s = true)
    (hlocs : ∀ x ∈ locs, ∀ cell, s.heap[x.base]? = some cell → cell.vm.isStatics = false)
    (htext : (text == notModelled) = false) (hlimit : ¬ (stringBytes (stringToUtf16 text)).size > e.platform.arrayLengthLimit) (hheap : ¬ (stringBytes (stringToUtf16 text)).size * componentBytes .byte > e.platform.maxHeapBytes)
    {g : JFrame} (hg : g.method = m₀) (hsize : g.locals.size = c.maxLocals)
    (hRframes : names.length + 4 < R.frames) (hRlocals : 2 * g.monitorRoom + (g.stack.map fun v => v.category).sum + 10240 ≤ R.locals) (hshort : 13 * names.length + 55 ≤ 10240)
    (hRcells : cells + 3 ≤ R.cells) (hRslots : slots + ((stringBytes (stringToUtf16 text)).size + 4 + 6) ≤ R.slots) (hlocks : meth.locks = false) :
    ∃ (S : State) (q : Addr) (ce : Cell), (∀ target, Steps p.tables e below ((S.setTop g).pushFrame (.throwing q)) target → Steps p.tables e below ((W.setTop g).pushFrame (.throwNew cls (some text) none)) target) ∧
      Stand p l e R s m₀ args below meth c S locs (cells + 3) (slots + ((stringBytes (stringToUtf16 text)).size + 4 + 6)) ∧ S.heap[q]? = some ce ∧ s.vm.findClass cls = some ce.cls ∧ ce.vm = .none := by
  have howns : e.platform.frameOwnsMonitors = true := by rw [X.admits.platform]
  have hfin : e.platform.finalization = false := by rw [X.admits.platform]
  have hpl : e.platform.magicAccessors = ({} : Platform).magicAccessors := by rw [X.admits.platform]
  have a : ∀ x, x ∈ Bundle.messageArmAtoms cls names → x.holds args s none s [] = true := fun x hx => h x hx
  obtain ⟨T, Z0, L, -, Y⟩ := ThrowableC.of_atoms (args := args) howns hfin hpl (fun x hx => h x (by simp [Bundle.messageArmAtoms, hx]))
  obtain ⟨Z, M, LZ, LM, hnZ⟩ := Init0T.ofS_atoms (args := args) hpl L Y (fun x hx => h x (by simp [Bundle.messageArmAtoms, hx]))
  obtain ⟨P1, Ps, hlen, L1, hL, hP1m, hlink1, hlink⟩ := Bundle.chainS (args := args) hpl hnZ names cls hcls hnames (fun x hx => h x (by simp [Bundle.messageArmAtoms, hx]))
  obtain ⟨Zs, LZs, hn4, hfitv, hfitc⟩ := StringT.of_atoms (args := args) (fun x hx => h x (by simp [Bundle.messageArmAtoms, hx]))
  have hfound : s.vm.findClass cls = some P1.m.cls := findClass_of_methodNamed hP1m
  obtain ⟨c1, kX, hc1, hk, hord, -, -, hn6⟩ := Cond.instantiable_spec (a (.instantiable cls 6) (by simp [Bundle.messageArmAtoms]))
  cases Option.some.inj (hc1.symm.trans hfound)
  have hinit := Cond.initialized_spec hfound hk (a (.initialized cls) (by simp [Bundle.messageArmAtoms]))
  have hctor : kX.findMethod "<init>" "(Ljava/lang/String;)V" = some P1.m.idx := findMethod_of_methodNamed hP1m hk
  have hsel0 : selectMethod e.platform s.vm P1.m.cls T.fill0 = .method T.fill0 := by
    obtain ⟨c2, r2, m2, q1, q2, q3, q4, -⟩ := Cond.selects_spec (a (.selects cls Bundle.tFill0 Bundle.tFill0) (by simp [Bundle.messageArmAtoms]))
    cases Option.some.inj (q1.symm.trans hfound)
    cases Option.some.inj (q2.symm.trans (State.methodFound?_of_named Y.fill0 (by decide)))
    cases Option.some.inj (q3.symm.trans Y.fill0)
    rw [Launch.admits_selectMethod X.admits]; exact q4
  have hselF : selectMethod e.platform s.vm P1.m.cls T.fill = .method T.fill := by
    obtain ⟨c2, r2, m2, q1, q2, q3, q4, -⟩ := Cond.selects_spec (a (.selects cls Bundle.tFill Bundle.tFill) (by simp [Bundle.messageArmAtoms]))
    cases Option.some.inj (q1.symm.trans hfound)
    cases Option.some.inj (q2.symm.trans (State.methodFound?_of_named Y.fill (by decide)))
    cases Option.some.inj (q3.symm.trans Y.fill)
    rw [Launch.admits_selectMethod X.admits]; exact q4
  obtain ⟨cellS0, hcS0, hiss⟩ := Y.statics
  obtain ⟨u0, hu0⟩ := Cond.staticRefV Y.unassigned L.unassignedStatic L.statics hcS0 hiss (a (.isRef (.static Bundle.tN "UNASSIGNED_STACK" Bundle.steD)) (by simp [Bundle.messageArmAtoms]))
  obtain ⟨sen, hsen⟩ := Cond.staticRefV Y.sentinel L.sentinelStatic L.statics hcS0 hiss (a (.isRef (.static Bundle.tN "SUPPRESSED_SENTINEL" Bundle.listD)) (by simp [Bundle.messageArmAtoms]))
  obtain ⟨ci198, i198, fB, hk198, hg198, ha198, hsB, -, hnB, htB, hffB⟩ := Cond.ownField (t := .object "java/lang/Object") Y.found L.cls (by decide +kernel) (a (.fieldLink Bundle.tN 198 Bundle.tN "backtrace" "Ljava/lang/Object;") (by simp [Bundle.messageArmAtoms])) (a (.lays Bundle.tN Bundle.tN "backtrace" "Ljava/lang/Object;") (by simp [Bundle.messageArmAtoms])) e.platform hpl
  obtain ⟨cellS, hcS', heS, -, hkeep⟩ := X.same.2.2.2.2.2 T.aS cellS0 hcS0
  have hcellS : W.heap[T.aS]? = some cellS := hcS'
  have hout' : ∀ i, (⟨T.aS, i⟩ : Loc) ∉ locs := fun i hmem => by
    have := hlocs _ hmem cellS0 hcS0
    rw [hiss] at this; cases this
  have hknownS : cellS.vm ≠ .unknown := by
    rw [heS]; intro hu
    rw [show cellS0.vm = .unknown from hu] at hiss
    cases hiss
  have hvU : cellS.slots[T.fUnassigned.slot]? = some u0.v := by rw [hkeep _ (hout' _)]; exact hu0
  have hvSen : cellS.slots[T.fSentinel.slot]? = some sen.v := by rw [hkeep _ (hout' _)]; exact hsen
  obtain ⟨iM, hffM⟩ := Y.msg
  obtain ⟨tyC, dC, hdC, hdnC⟩ := Cond.laysAt hfound hk Y.cause (a (.lays cls Bundle.tN "cause" "Ljava/lang/Throwable;") (by simp [Bundle.messageArmAtoms]))
  obtain ⟨tyS, dS, hdS, hdnS⟩ := Cond.laysAt hfound hk Y.stack (a (.lays cls Bundle.tN "stackTrace" Bundle.steD) (by simp [Bundle.messageArmAtoms]))
  obtain ⟨tyP, dP, hdP, hdnP⟩ := Cond.laysAt hfound hk Y.supp (a (.lays cls Bundle.tN "suppressedExceptions" Bundle.listD) (by simp [Bundle.messageArmAtoms]))
  obtain ⟨tyM, dM, hdM, hdnM⟩ := Cond.laysAt hfound hk hffM (a (.lays cls Bundle.tN "detailMessage" "Ljava/lang/String;") (by simp [Bundle.messageArmAtoms]))
  obtain ⟨tyB, dB, hdB, hdnB⟩ := Cond.laysAt hfound hk hffB (a (.lays cls Bundle.tN "backtrace" "Ljava/lang/Object;") (by simp [Bundle.messageArmAtoms]))
  have bC := Cond.laysApart hdB hdC hdnB hdnC (by rw [hnB, Y.causeName]; decide)
  have bS := Cond.laysApart hdB hdS hdnB hdnS (by rw [hnB, Y.stackName]; decide)
  have bP := Cond.laysApart hdB hdP hdnB hdnP (by rw [hnB, Y.suppName]; decide)
  have hbk : ((preparedCellV T.toThrowableT (freshCell P1.m.cls kX) (W.heap.size + 2) u0 sen).withEntry W.cur).slots[fB.slot]? = some .null := by
    have := fresh_default (c := P1.m.cls) tyB
    rw [htB] at this
    simpa [preparedCellV, Cell.setSlot, Cell.withEntry, Array.getElem?_setIfInBounds, bC, bS, bP, bC.symm, bS.symm, bP.symm, defaultValue] using this
  have tkC := Takes.of_laid (v := .ref (W.heap.size + 2)) hk hord tyC (by rw [Y.causeType]; rfl)
  have tkS := Takes.of_laid (v := u0.v) hk hord tyS (by rw [Y.stackType]; exact fits_refV_array _ u0)
  have tkP := Takes.of_laid (v := sen.v) hk hord tyP (by rw [Y.suppType]; exact fits_refV_object _ sen)
  have tkM := Takes.of_laid (v := .ref (W.heap.size + 1)) hk hord tyM (by rw [Y.msgType]; rfl)
  have hskip : SkipFacts T e.platform s (fun u => u) u0 ((preparedCellV T.toThrowableT (freshCell P1.m.cls kX) (W.heap.size + 2) u0 sen).withEntry W.cur) := ⟨{ ci198 := ci198, i198 := i198, fBack := fB }, ⟨hk198, hg198, ha198, hsB⟩, hbk, fun _ _ => rfl⟩
  have h0 : At W g.method c below := by rw [hg]; exact X.here
  obtain ⟨hbeyond, hfreeW⟩ := X.vmMayThrow hsize (.throwNew cls (some text) none) (fun f hf => by cases hf) rfl hRlocals
  have hfr' : W.frames.length + Ps.length + 4 < (e.platform.stackLimits W.me).1 := by have := X.framesAbove hRframes; omega
  have hwd' : (stackUse (.java g :: W.frames.tail)).2 + 13 * Ps.length + 55 ≤ (e.platform.stackLimits W.me).2 := by have := X.stackAbove hsize (K := 13 * Ps.length + 55) (by omega); omega
  have hslots : W.slotsUsed + (stringBytes (stringToUtf16 text)).size + Zs.kS.instanceTypes.size + kX.instanceTypes.size ≤ e.platform.maxSlots := by
    have := X.slotsAbove hRslots
    rw [hn4, hn6]
    omega
  obtain ⟨vm', hW', st⟩ := Steps.vmThrowsMessageColdByV p (s₀ := s) (S := W) (g := g) h0 hexec T L Z LZ M LM X.warmed (t := W.cur) rfl Zs LZs P1 L1 Ps hL hlink1 hlink hsoe hoom hfound hk hinit hord hctor
    (Launch.admits_hotImplicitExceptions X.admits) hbeyond hfreeW htext hlimit hheap (X.cellsAbove hRcells) hslots (hfitv _) (hfitc _)
    (Nn := fun u => u) heapOnly_id (fun _ _ => rfl) (fun _ => rfl) (fun u x y => setCell_twice _ _ _ _) (fun _ => Nat.le_refl _) (cN := ((preparedCellV T.toThrowableT (freshCell P1.m.cls kX) (W.heap.size + 2) u0 sen).withEntry W.cur))
    hsel0 hcellS hknownS hvU tkS (fun _ hu => hu) (fun _ hu => hu) rfl rfl rfl (by simp [preparedCellV, Cell.setSlot, Cell.withEntry]) hskip (fun _ _ hA hW _ hroom _ hrest => L.nativeOff p htr hA hW hroom hrest) hselF hvSen tkC tkP tkM Y.objLocals rfl hfr' hwd'
  rw [plainBareV_eq T.toThrowableT (W.heap.size + 2) u0 sen (.ref (W.heap.size + 1)) W.cur rfl rfl] at st
  obtain ⟨-, -, w3, w4, -, -, -⟩ := withThrown_facts e.platform W Zs text P1.m.cls kX
  have X3 := ((X.pushed (bytesOf Zs.cB (stringToUtf16 text))).pushed (stringAt Zs.cS Zs.kS Zs.fv Zs.fc (stringToUtf16 text) W.heap.size)).pushed (freshCell P1.m.cls kX)
  rw [← withString_eq] at X3
  have X4 := X3.noted hW'
  have ha : (W.heap.size + 2) < ((withThrown W Zs text P1.m.cls kX).setVm vm').heap.size := by show _ < (withThrown W Zs text P1.m.cls kX).heap.size; rw [w3]; omega
  have hcell : ((withThrown W Zs text P1.m.cls kX).setVm vm').heap[(W.heap.size + 2)]? = some (freshCell P1.m.cls kX) := w4
  have X5 := ((((X4.stored hcell T.fCause.slot (.ref (W.heap.size + 2))).storedAgain ha T.fStack.slot u0.v).storedAgain ha T.fSupp.slot sen.v).storedAgain ha T.fStack.slot u0.v).storedAgain ha T.fMsg.slot (.ref (W.heap.size + 1))
  obtain ⟨g₁, hfrM⟩ := X5.frames_eq
  have hU : ((((withThrown W Zs text P1.m.cls kX).setVm vm').setCell (W.heap.size + 2) (plainBareV T.toThrowableT (freshCell P1.m.cls kX) (W.heap.size + 2) u0 sen (.ref (W.heap.size + 1)))).setTop g).pushFrame (.throwing (W.heap.size + 2)) = (((withThrown W Zs text P1.m.cls kX).setVm vm').setCell (W.heap.size + 2) (plainBareV T.toThrowableT (freshCell P1.m.cls kX) (W.heap.size + 2) u0 sen (.ref (W.heap.size + 1)))).setFrames (.throwing (W.heap.size + 2) :: .java g :: below) := by
    rw [State.pushFrame, State.frames_setTop _ hfrM, State.setTop_of_frames _ hfrM, State.setFrames_setFrames]
  have b1 : (bytesOf Zs.cB (stringToUtf16 text)).slots.size = (stringBytes (stringToUtf16 text)).size := by
    rw [(Cell.writeAll_facts _ _).2.2]; simp [bytes0]
  have b2 : (stringAt Zs.cS Zs.kS Zs.fv Zs.fc (stringToUtf16 text) W.heap.size).slots.size = 4 := by simp [string0, Cell.setSlot, hn4]
  have b3 : (freshCell P1.m.cls kX).slots.size = 6 := by simp [hn6]
  rw [b1, b2, b3] at X5
  have e9 : slots + (stringBytes (stringToUtf16 text)).size + 4 + 6 = slots + ((stringBytes (stringToUtf16 text)).size + 4 + 6) := by omega
  rw [e9] at X5
  simp only [List.append_assoc, List.cons_append, List.nil_append] at X5
  refine ⟨((withThrown W Zs text P1.m.cls kX).setVm vm').setCell (W.heap.size + 2) (plainBareV T.toThrowableT (freshCell P1.m.cls kX) (W.heap.size + 2) u0 sen (.ref (W.heap.size + 1))), W.heap.size + 2, _, fun target ht => st _ (by rw [X.tail, ← hU]; exact ht),
    X5.forget (fun y hy => ?_), heapAt_setCell_self _ ha, hfound, rfl⟩
  simp only [List.mem_cons, List.not_mem_nil, or_false] at hy
  have hge : s.heap.size ≤ W.heap.size := X.same.2.1
  rcases hy with rfl | rfl | rfl | rfl | rfl <;> exact Nat.le_trans hge (Nat.le_add_right _ 2)
set_option maxHeartbeats 1000000 in
/-- the machine throws NullPointerException, no traces kept: from its note over the frame g to 'throwing' over the same frame (follows the proof of Stand.vmThrowsNpe, Shelf42/KT2.lean; throwsNpeColdBareVAt, Shelf42/NT91.lean, called) -/
theorem vx_npeAt {p : Program} {l : Launch} {e : Env} {R : Room} {s : State} {m₀ : MethodId} {args : Array Value} {below : List Frame} {meth : Method} {c : Code} {W : State} {locs : List Loc} {cells slots : Nat}
    (X : Stand p l e R s m₀ args below meth c W locs cells slots) (hexec : p.tables.exec = Jvm.exec) (htr : e.platform.stackTraces = false) {n : Nat}
    (h : ∀ a ∈ Bundle.npeArmAtoms n, a.before args s = true)
    (hlocs : ∀ x ∈ locs, ∀ cell, s.heap[x.base]? = some cell → cell.vm.isStatics = false)
    {g : JFrame} (hg : g.method = m₀) (hsize : g.locals.size = c.maxLocals)
    (hRframes : 7 < R.frames) (hRlocals : 2 * g.monitorRoom + (g.stack.map fun v => v.category).sum + 10240 ≤ R.locals)
    (hRcells : cells + 1 ≤ R.cells) (hRslots : slots + n ≤ R.slots) (hlocks : meth.locks = false) :
    ∃ (S : State) (q : Addr) (ce : Cell), (∀ target, Steps p.tables e below ((S.setTop g).pushFrame (.throwing q)) target → Steps p.tables e below ((W.setTop g).pushFrame (.throwNew "java/lang/NullPointerException" none none)) target) ∧
      Stand p l e R s m₀ args below meth c S locs (cells + 1) (slots + n) ∧ S.heap[q]? = some ce ∧ s.vm.findClass "java/lang/NullPointerException" = some ce.cls ∧ ce.vm = .none := by
  have howns : e.platform.frameOwnsMonitors = true := by rw [X.admits.platform]
  have hfin : e.platform.finalization = false := by rw [X.admits.platform]
  have hpl : e.platform.magicAccessors = ({} : Platform).magicAccessors := by rw [X.admits.platform]
  have hpl2 : e.platform.arrayCloneIsPublic = true := by rw [X.admits.platform]
  have a' : ∀ x, x ∈ Bundle.npeArmAtoms n → x.holds args s none s [] = true := fun x hx => h x hx
  obtain ⟨T, Z, L, LZ, Y⟩ := ThrowableC.of_atoms (args := args) howns hfin hpl (fun x hx => h x (by simp [Bundle.npeArmAtoms, hx]))
  obtain ⟨N, LN, hcN, hnNF, hordN, hffS⟩ := NpeC.of_atoms (args := args) hpl hpl2 L Y (fun x hx => h x (by simp [Bundle.npeArmAtoms, hx]))
  obtain ⟨P1, L1, hP1m, hP1s⟩ := PassC.of_atoms (args := args) (s := s) hpl (X := Bundle.nN) (Y := Bundle.rN) (by decide) (by decide) LibCode.NullPointerException.Init0.at_0 LibCode.NullPointerException.Init0.at_1 LibCode.NullPointerException.Init0.at_4 (fun x hx => h x (by simp [Bundle.npeArmAtoms, hx]))
  obtain ⟨PR, LR, hPRm, hPRs⟩ := PassC.of_atoms (args := args) (s := s) hpl (X := Bundle.rN) (Y := Bundle.eN) (by decide) (by decide) LibCode.RuntimeException.Init0.at_0 LibCode.RuntimeException.Init0.at_1 LibCode.RuntimeException.Init0.at_4 (fun x hx => h x (by simp [Bundle.npeArmAtoms, hx]))
  obtain ⟨PE, LEx, hPEm, hPEs⟩ := PassC.of_atoms (args := args) (s := s) hpl (X := Bundle.eN) (Y := Bundle.tN) (by decide) (by decide) LibCode.Exception.Init0.at_0 LibCode.Exception.Init0.at_1 LibCode.Exception.Init0.at_4 (fun x hx => h x (by simp [Bundle.npeArmAtoms, hx]))
  have hfound : s.vm.findClass Bundle.nN = some P1.m.cls := findClass_of_methodNamed hP1m
  have ecls : N.cN = P1.m.cls := Option.some.inj (hcN.symm.trans hfound)
  have hk : s.vm.classes[P1.m.cls]? = some N.kN := by rw [← ecls]; exact LN.cls
  have hinit := Cond.initialized_spec hfound hk (a' (.initialized Bundle.nN) (by simp [Bundle.npeArmAtoms]))
  have hctor : N.kN.findMethod "<init>" "()V" = some P1.m.idx := findMethod_of_methodNamed hP1m hk
  obtain ⟨c1, k1, hc1, hk1, -, -, -, hn⟩ := Cond.instantiable_spec (a' (.instantiable Bundle.nN n) (by simp [Bundle.npeArmAtoms]))
  cases Option.some.inj (hc1.symm.trans hfound)
  cases Option.some.inj (hk1.symm.trans hk)
  have hfsz : (freshCell P1.m.cls N.kN).slots.size = n := by simp [hn]
  have hlink1 : P1.sup = PR.m := Option.some.inj (hP1s.symm.trans hPRm)
  have hlinkR : PR.sup = PE.m := Option.some.inj (hPRs.symm.trans hPEm)
  have hlinkE : PE.sup = Z.m T.toThrowableT := Option.some.inj (hPEs.symm.trans Y.init0)
  have hLs : ∀ P, P ∈ [PR, PE] → P.Links0 e.platform s := fun P hP => by
    simp only [List.mem_cons, List.not_mem_nil, or_false] at hP
    rcases hP with rfl | rfl
    · exact LR
    · exact LEx
  have hsel0 : selectMethod e.platform s.vm P1.m.cls T.fill0 = .method T.fill0 := by
    obtain ⟨c2, r2, m2, q1, q2, q3, q4, -⟩ := Cond.selects_spec (a' (.selects Bundle.nN Bundle.tFill0 Bundle.tFill0) (by simp [Bundle.npeArmAtoms]))
    cases Option.some.inj (q1.symm.trans hfound)
    cases Option.some.inj (q2.symm.trans (State.methodFound?_of_named Y.fill0 (by decide)))
    cases Option.some.inj (q3.symm.trans Y.fill0)
    rw [Launch.admits_selectMethod X.admits]; exact q4
  have hselF : selectMethod e.platform s.vm P1.m.cls T.fill = .method N.fill := by
    obtain ⟨c2, r2, m2, q1, q2, q3, q4, -⟩ := Cond.selects_spec (a' (.selects Bundle.nN Bundle.tFill Bundle.nFill) (by simp [Bundle.npeArmAtoms]))
    cases Option.some.inj (q1.symm.trans hfound)
    cases Option.some.inj (q2.symm.trans (State.methodFound?_of_named Y.fill (by decide)))
    cases Option.some.inj (q3.symm.trans hnNF)
    rw [Launch.admits_selectMethod X.admits]; exact q4
  obtain ⟨cellS0, hcS0, hiss⟩ := Y.statics
  obtain ⟨u0, hu0⟩ := Cond.staticRefV Y.unassigned L.unassignedStatic L.statics hcS0 hiss (a' (.isRef (.static Bundle.tN "UNASSIGNED_STACK" Bundle.steD)) (by simp [Bundle.npeArmAtoms]))
  obtain ⟨sen, hsen⟩ := Cond.staticRefV Y.sentinel L.sentinelStatic L.statics hcS0 hiss (a' (.isRef (.static Bundle.tN "SUPPRESSED_SENTINEL" Bundle.listD)) (by simp [Bundle.npeArmAtoms]))
  obtain ⟨ci198, i198, fB, hk198, hg198, ha198, hsB, -, hnB, htB, hffB⟩ := Cond.ownField (t := .object "java/lang/Object") Y.found L.cls (by decide +kernel) (a' (.fieldLink Bundle.tN 198 Bundle.tN "backtrace" Bundle.objD) (by simp [Bundle.npeArmAtoms])) (a' (.lays Bundle.tN Bundle.tN "backtrace" Bundle.objD) (by simp [Bundle.npeArmAtoms])) e.platform hpl
  obtain ⟨cellS, hcS', heS, -, hkeep⟩ := X.same.2.2.2.2.2 T.aS cellS0 hcS0
  have hcellS : W.heap[T.aS]? = some cellS := hcS'
  have hout' : ∀ i, (⟨T.aS, i⟩ : Loc) ∉ locs := fun i hmem => by
    have := hlocs _ hmem cellS0 hcS0
    rw [hiss] at this; cases this
  have hknownS : cellS.vm ≠ .unknown := by
    rw [heS]; intro hu
    rw [show cellS0.vm = .unknown from hu] at hiss
    cases hiss
  have hvU : cellS.slots[T.fUnassigned.slot]? = some u0.v := by rw [hkeep _ (hout' _)]; exact hu0
  have hvSen : cellS.slots[T.fSentinel.slot]? = some sen.v := by rw [hkeep _ (hout' _)]; exact hsen
  obtain ⟨tyC, dC, hdC, hdnC⟩ := Cond.laysAt hfound hk Y.cause (a' (.lays Bundle.nN Bundle.tN "cause" "Ljava/lang/Throwable;") (by simp [Bundle.npeArmAtoms]))
  obtain ⟨tyS, dS, hdS, hdnS⟩ := Cond.laysAt hfound hk Y.stack (a' (.lays Bundle.nN Bundle.tN "stackTrace" Bundle.steD) (by simp [Bundle.npeArmAtoms]))
  obtain ⟨tyP, dP, hdP, hdnP⟩ := Cond.laysAt hfound hk Y.supp (a' (.lays Bundle.nN Bundle.tN "suppressedExceptions" Bundle.listD) (by simp [Bundle.npeArmAtoms]))
  obtain ⟨tyX, dX, hdX, hdnX⟩ := Cond.laysAt hfound hk hffS (a' (.lays Bundle.nN Bundle.nN "extendedMessageState" "I") (by simp [Bundle.npeArmAtoms, Bundle.npeAtoms]))
  obtain ⟨hnX, htX⟩ := State.fieldFound?_type hffS (t := .int) (by decide +kernel)
  have xC := Cond.laysApart hdC hdX hdnC hdnX (by rw [hnX, Y.causeName]; decide)
  have xS := Cond.laysApart hdS hdX hdnS hdnX (by rw [hnX, Y.stackName]; decide)
  have xP := Cond.laysApart hdP hdX hdnP hdnX (by rw [hnX, Y.suppName]; decide)
  have hv0 : (freshCell P1.m.cls N.kN).slots[N.fState.slot]? = some (.int 0) := by
    have := fresh_default (c := P1.m.cls) tyX
    rw [htX] at this; exact this
  obtain ⟨tyB, dB, hdB, hdnB⟩ := Cond.laysAt hfound hk hffB (a' (.lays Bundle.nN Bundle.tN "backtrace" Bundle.objD) (by simp [Bundle.npeArmAtoms]))
  have bC := Cond.laysApart hdB hdC hdnB hdnC (by rw [hnB, Y.causeName]; decide)
  have bS := Cond.laysApart hdB hdS hdnB hdnS (by rw [hnB, Y.stackName]; decide)
  have bP := Cond.laysApart hdB hdP hdnB hdnP (by rw [hnB, Y.suppName]; decide)
  have bX := Cond.laysApart hdB hdX hdnB hdnX (by rw [hnB, hnX]; decide)
  have hbk : ((npeCell N.toNpeT (preparedCellV T.toThrowableT (freshCell P1.m.cls N.kN) W.heap.size u0 sen) W.cur).withEntry W.cur).slots[fB.slot]? = some .null := by
    have := fresh_default (c := P1.m.cls) tyB
    rw [htB] at this
    simpa [npeCell, preparedCellV, Cell.setSlot, Cell.withEntry, Array.getElem?_setIfInBounds, bC, bS, bP, bX, bC.symm, bS.symm, bP.symm, bX.symm, defaultValue] using this
  have tkC := Takes.of_laid (v := .ref W.heap.size) hk hordN tyC (by rw [Y.causeType]; rfl)
  have tkS := Takes.of_laid (v := u0.v) hk hordN tyS (by rw [Y.stackType]; exact fits_refV_array _ u0)
  have tkP := Takes.of_laid (v := sen.v) hk hordN tyP (by rw [Y.suppType]; exact fits_refV_object _ sen)
  have tkX := Takes.of_laid (v := .int 1) hk hordN tyX (by rw [htX]; rfl)
  have hskip : SkipFacts T e.platform s (fun u => u) u0 ((npeCell N.toNpeT (preparedCellV T.toThrowableT (freshCell P1.m.cls N.kN) W.heap.size u0 sen) W.cur).withEntry W.cur) := ⟨{ ci198 := ci198, i198 := i198, fBack := fB }, ⟨hk198, hg198, ha198, hsB⟩, hbk, fun _ _ => rfl⟩
  obtain ⟨vm', X3, st, -⟩ := X.throwsNpeColdBareVAt hexec hg hsize T L Z LZ N LN P1 L1 [PR, PE] hLs hlink1 ⟨hlinkR, hlinkE, trivial⟩ hfound hk hinit hordN hctor hsel0 hselF hcellS hknownS hvU hvSen
    hv0 xC xS xP tkC tkS tkP tkX Y.objLocals hskip (fun _ _ hA hW _ hroom _ hrest => L.nativeOff p htr hA hW hroom hrest) (by simpa using hRframes) hRlocals (by simp) hRcells (by rw [hn]; exact hRslots)
  have hlt : W.heap.size < ((W.pushCell (freshCell P1.m.cls N.kN)).setVm vm').heap.size := by
    show W.heap.size < (W.pushCell (freshCell P1.m.cls N.kN)).heap.size
    rw [State.heap_size_pushCell]; omega
  rw [hfsz] at X3
  obtain ⟨g₁, hfrM⟩ := X3.frames_eq
  have hU : ((((W.pushCell (freshCell P1.m.cls N.kN)).setVm vm').setCell W.heap.size (npeBareV T.toThrowableT N.toNpeT (freshCell P1.m.cls N.kN) W.heap.size u0 sen)).setTop g).pushFrame (.throwing W.heap.size) = (((W.pushCell (freshCell P1.m.cls N.kN)).setVm vm').setCell W.heap.size (npeBareV T.toThrowableT N.toNpeT (freshCell P1.m.cls N.kN) W.heap.size u0 sen)).setFrames (.throwing W.heap.size :: .java g :: below) := by
    rw [State.pushFrame, State.frames_setTop _ hfrM, State.setTop_of_frames _ hfrM, State.setFrames_setFrames]
  refine ⟨_, W.heap.size, _, fun target ht => st.trans (by rw [← hU]; exact ht), X3.forget (fun y hy => ?_), heapAt_setCell_self _ hlt, hfound, rfl⟩
  simp only [List.mem_cons, List.not_mem_nil, or_false] at hy
  have hge : s.heap.size ≤ W.heap.size := X.same.2.1
  rcases hy with rfl | rfl | rfl | rfl | rfl <;> exact hge
/-- the words of a machine's NullPointerException, but the four that speak of the heap -/
def vx_atN (n : Nat) : List Cond := (Bundle.npeArmAtoms n).filter vx_no
/-- the words of a machine's throw with a message, but the four that speak of the heap -/
def vx_atM (X : String) (names : List String) : List Cond := (Bundle.messageArmAtoms X names).filter vx_no
section
variable {p : Program} {l : Launch} {e : Env} {R : Room} {s : State} {m : MethodId} {args : Array Value} {below : List Frame} {meth : Method} {c : Code} {H : Heap} {locs : List Loc} {cells slots : Nat}
/-- a frame seen from a rebased start, seen from the first start again -/
theorem vx_back9 {T S : State} {R' : Room} {k n : Nat} (X : Stand p l e R s m args below meth c T locs cells slots) (Y : Stand p l e R' ((T.setVm s.vm).setFrames (.invoking m args :: below)) m args below meth c T [] 0 0) (Z : Stand p l e R' ((T.setVm s.vm).setFrames (.invoking m args :: below)) m args below meth c S [] k n) :
    Stand p l e R s m args below meth c S locs (cells + k) (slots + n) := by
  have hW0 : s.WarmedH ((T.setVm s.vm).setFrames (.invoking m args :: below)).vm := State.WarmedH.refl s
  refine { admits := X.admits, cas := X.cas, clock := X.clock, frames := X.frames, room := X.room, hears := X.hears, method := X.method, code := X.code, here := Z.here, tail := Z.tail, warmed := State.WarmedH.trans hW0 Z.warmed, limits := Z.limits.trans (Y.limits.symm.trans X.limits), bytes := Z.bytes.trans (Y.bytes.symm.trans X.bytes), same := ?_ }
  obtain ⟨e1, e2⟩ := Z.same
  rw [State.setFrames_setFrames] at e1
  have h2 : (T.setVm s.vm).sameButNew (S.setVm s.vm) [] k n := ⟨e1, e2⟩
  have h3 := X.same.trans h2
  rw [List.append_nil] at h3
  exact h3
/-- from the machine's note that E is thrown here with this text -/
def vx_Note (p : Program) (l : Launch) (e : Env) (R : Room) (s : State) (m : MethodId) (args : Array Value) (below : List Frame) (meth : Method) (c : Code) (H : Heap) (locs : List Loc) (cells slots : Nat) (Q : State → Prop) (g : JFrame) (E text : String) : Prop :=
  ∀ T : State, T.heap = H → Stand p l e R s m args below meth c T locs cells slots → ∃ t, Steps p.tables e below ((T.setTop g).pushFrame (.throwNew E (some text) none)) t ∧ Q t
theorem vx_vm {pc : Nat} {ls : Array Slot} {rest : List Value} {Q : State → Prop} (hexec : p.tables.exec = Jvm.exec) (hl : l.stackTraces = false) {cls text : String} {names : List String} {nb : Nat} {A : Nat → Prop}
    (hcls : Bundle.fit cls = true) (hnames : ∀ n ∈ names, Bundle.fit n = true) (hsoe : (cls == "java/lang/StackOverflowError") = false) (hoom : (cls == "java/lang/OutOfMemoryError") = false)
    (hat : ∀ w ∈ vx_atM cls names, w.before args s = true) (hgood : ∀ w ∈ vx_atM cls names, vx_ot w = true)
    (hU : vx_Zq Bundle.tN "UNASSIGNED_STACK" Bundle.steD A s s.heap) (hN : vx_Zq Bundle.tN "SUPPRESSED_SENTINEL" Bundle.listD A s s.heap) (hS : va_S A s.heap H locs) (hsize : ls.size = c.maxLocals)
    (htext : (text == notModelled) = false) (hnb : (stringBytes (stringToUtf16 text)).size ≤ nb) (hnb1 : nb ≤ 1000)
    (hRframes : names.length + 4 < R.frames) (hRlocals : (rest.map fun v => v.category).sum + 10240 ≤ R.locals) (hshort : 13 * names.length + 55 ≤ 10240) (hRcells : cells + 3 ≤ R.cells) (hRslots : slots + (nb + 10) ≤ R.slots) (hlocks : meth.locks = false)
    (k : ∀ (H1 : Heap) (q9 : Addr) (ce : Cell), H.size ≤ H1.size → (∀ q : Nat, q < H.size → H1[q]? = H[q]?) → va_S A s.heap H1 locs → H1[q9]? = some ce → ce.vm = .none → s.vm.findClass cls = some ce.cls → vx_W p l e R s m args below meth c H1 locs (cells + 3) (slots + (nb + 10)) Q (F0 m pc ls rest) q9) :
    vx_Note p l e R s m args below meth c H locs cells slots Q (F0 m pc ls rest) cls text := by
  intro T hT X
  have htr : e.platform.stackTraces = false := (show e.platform.stackTraces = l.stackTraces by rw [X.admits.platform]).trans hl
  have Y := vx_rebase X (R' := { frames := R.frames, locals := R.locals, cells := 3, slots := nb + 10 }) (Nat.le_refl _) (Nat.le_refl _) hRcells hRslots
  have hhp : ((T.setVm s.vm).setFrames (.invoking m args :: below)).heap = H := hT
  have hW0 : s.WarmedH ((T.setVm s.vm).setFrames (.invoking m args :: below)).vm := State.WarmedH.refl s
  have hat' : ∀ w ∈ vx_atM cls names, w.before args ((T.setVm s.vm).setFrames (.invoking m args :: below)) = true := fun w hw => vx_ot_at hW0 rfl (hgood w hw) (hat w hw)
  have hU' : vx_Zq Bundle.tN "UNASSIGNED_STACK" Bundle.steD A ((T.setVm s.vm).setFrames (.invoking m args :: below)) ((T.setVm s.vm).setFrames (.invoking m args :: below)).heap := by rw [hhp]; exact vx_Zq.moved hW0.alike (hU.kept hS.2.1)
  have hN' : vx_Zq Bundle.tN "SUPPRESSED_SENTINEL" Bundle.listD A ((T.setVm s.vm).setFrames (.invoking m args :: below)) ((T.setVm s.vm).setFrames (.invoking m args :: below)).heap := by rw [hhp]; exact vx_Zq.moved hW0.alike (hN.kept hS.2.1)
  obtain ⟨S, q, ce, st, Z, hce, hcl', hv⟩ := vx_vmAt Y hexec htr (cls := cls) (names := names) (text := text) hcls hnames hsoe hoom (vx_own hat' (vx_isRefq hU'.1) (vx_isRefq hN'.1) hU'.2.word hN'.2.word) (fun x hx => nomatch hx) htext
    (by rw [Launch.admits_arrayLengthLimit X.admits]; omega) (by rw [Launch.admits_maxHeapBytes X.admits]; simp only [componentBytes]; omega)
    (g := F0 m pc ls rest) rfl hsize hRframes (by show 2 * 0 + (rest.map fun v => v.category).sum + 10240 ≤ R.locals; omega) hshort (by show 0 + 3 ≤ 3; omega) (by show 0 + (_ + 4 + 6) ≤ nb + 10; omega) hlocks
  obtain ⟨f1, f2⟩ := vx_frame Z.same
  have f1' : H.size ≤ S.heap.size := by rw [← hT]; exact f1
  have f2' : ∀ q : Nat, q < H.size → S.heap[q]? = H[q]? := fun q hq => by
    rw [← hT]
    exact f2 q (by rw [← hT] at hq; exact hq) (fun z hz => nomatch hz)
  have X5 := vx_back9 X Y Z
  have X6 : Stand p l e R s m args below meth c S locs (cells + 3) (slots + (nb + 10)) := { X5 with same := X5.same.mono (by omega) (by omega) }
  obtain ⟨t, a1, b1⟩ := k S.heap q ce f1' f2' ⟨Nat.le_trans hS.1 f1', fun q h1 h2 => (f2' q (Nat.lt_of_lt_of_le h1 hS.1)).trans (hS.2.1 q h1 h2), hS.2.2⟩ hce hv hcl' S rfl X6
  exact ⟨t, st t a1, b1⟩
/-- from the machine's note that NullPointerException is thrown here -/
def vx_NoteN (p : Program) (l : Launch) (e : Env) (R : Room) (s : State) (m : MethodId) (args : Array Value) (below : List Frame) (meth : Method) (c : Code) (H : Heap) (locs : List Loc) (cells slots : Nat) (Q : State → Prop) (g : JFrame) : Prop :=
  ∀ T : State, T.heap = H → Stand p l e R s m args below meth c T locs cells slots → ∃ t, Steps p.tables e below ((T.setTop g).pushFrame (.throwNew "java/lang/NullPointerException" none none)) t ∧ Q t
theorem vx_npe {pc : Nat} {ls : Array Slot} {rest : List Value} {Q : State → Prop} (hexec : p.tables.exec = Jvm.exec) (hl : l.stackTraces = false) {nb : Nat} {A : Nat → Prop}
    (hat : ∀ w ∈ vx_atN nb, w.before args s = true) (hgood : ∀ w ∈ vx_atN nb, vx_ot w = true)
    (hU : vx_Zq Bundle.tN "UNASSIGNED_STACK" Bundle.steD A s s.heap) (hN : vx_Zq Bundle.tN "SUPPRESSED_SENTINEL" Bundle.listD A s s.heap) (hS : va_S A s.heap H locs) (hsize : ls.size = c.maxLocals)
    (hRframes : 7 < R.frames) (hRlocals : (rest.map fun v => v.category).sum + 10240 ≤ R.locals) (hRcells : cells + 1 ≤ R.cells) (hRslots : slots + nb ≤ R.slots) (hlocks : meth.locks = false)
    (k : ∀ (H1 : Heap) (q9 : Addr) (ce : Cell), H.size ≤ H1.size → (∀ q : Nat, q < H.size → H1[q]? = H[q]?) → va_S A s.heap H1 locs → H1[q9]? = some ce → ce.vm = .none → s.vm.findClass "java/lang/NullPointerException" = some ce.cls → vx_W p l e R s m args below meth c H1 locs (cells + 1) (slots + nb) Q (F0 m pc ls rest) q9) :
    vx_NoteN p l e R s m args below meth c H locs cells slots Q (F0 m pc ls rest) := by
  intro T hT X
  have htr : e.platform.stackTraces = false := (show e.platform.stackTraces = l.stackTraces by rw [X.admits.platform]).trans hl
  have Y := vx_rebase X (R' := { frames := R.frames, locals := R.locals, cells := 1, slots := nb }) (Nat.le_refl _) (Nat.le_refl _) hRcells hRslots
  have hhp : ((T.setVm s.vm).setFrames (.invoking m args :: below)).heap = H := hT
  have hW0 : s.WarmedH ((T.setVm s.vm).setFrames (.invoking m args :: below)).vm := State.WarmedH.refl s
  have hat' : ∀ w ∈ vx_atN nb, w.before args ((T.setVm s.vm).setFrames (.invoking m args :: below)) = true := fun w hw => vx_ot_at hW0 rfl (hgood w hw) (hat w hw)
  have hU' : vx_Zq Bundle.tN "UNASSIGNED_STACK" Bundle.steD A ((T.setVm s.vm).setFrames (.invoking m args :: below)) ((T.setVm s.vm).setFrames (.invoking m args :: below)).heap := by rw [hhp]; exact vx_Zq.moved hW0.alike (hU.kept hS.2.1)
  have hN' : vx_Zq Bundle.tN "SUPPRESSED_SENTINEL" Bundle.listD A ((T.setVm s.vm).setFrames (.invoking m args :: below)) ((T.setVm s.vm).setFrames (.invoking m args :: below)).heap := by rw [hhp]; exact vx_Zq.moved hW0.alike (hN.kept hS.2.1)
  obtain ⟨S, q, ce, st, Z, hce, hcl', hv⟩ := vx_npeAt Y hexec htr (n := nb) (vx_own hat' (vx_isRefq hU'.1) (vx_isRefq hN'.1) hU'.2.word hN'.2.word) (fun x hx => nomatch hx)
    (g := F0 m pc ls rest) rfl hsize hRframes (by show 2 * 0 + (rest.map fun v => v.category).sum + 10240 ≤ R.locals; omega) (by show 0 + 1 ≤ 1; omega) (by show 0 + nb ≤ nb; omega) hlocks
  obtain ⟨f1, f2⟩ := vx_frame Z.same
  have f1' : H.size ≤ S.heap.size := by rw [← hT]; exact f1
  have f2' : ∀ q : Nat, q < H.size → S.heap[q]? = H[q]? := fun q hq => by
    rw [← hT]
    exact f2 q (by rw [← hT] at hq; exact hq) (fun z hz => nomatch hz)
  have X5 := vx_back9 X Y Z
  have X6 : Stand p l e R s m args below meth c S locs (cells + 1) (slots + nb) := { X5 with same := X5.same.mono (by omega) (by omega) }
  obtain ⟨t, a1, b1⟩ := k S.heap q ce f1' f2' ⟨Nat.le_trans hS.1 f1', fun q h1 h2 => (f2' q (Nat.lt_of_lt_of_le h1 hS.1)).trans (hS.2.1 q h1 h2), hS.2.2⟩ hce hv hcl' S rfl X6
  exact ⟨t, st t a1, b1⟩
variable {Q : State → Prop} {cc : ByteArray} {pc : Nat} {ls : Array Slot} {rest : List Value}
theorem vx_idivZ (hexec : p.tables.exec = Jvm.exec) (hb : c.code = cc) {a b : Int32} (h0 : b = 0) (d : decode cc pc = .ok (.idiv, 1)) (k : vx_Note p l e R s m args below meth c H locs cells slots Q (F0 m pc ls rest) "java/lang/ArithmeticException" "/ by zero") :
    W p l e R s m args below meth c H locs cells slots Q (F0 m pc ls (.int b :: .int a :: rest)) := by
  intro T hT X
  obtain ⟨t, st, q⟩ := k T hT X
  exact ⟨t, X.idivZero hexec (g := F0 m pc ls (.int b :: .int a :: rest)) rfl (a := a) (rest := rest) (by rw [h0]) (by rw [hb]; exact d) t st, q⟩
theorem vx_iremZ (hexec : p.tables.exec = Jvm.exec) (hb : c.code = cc) {a b : Int32} (h0 : b = 0) (d : decode cc pc = .ok (.irem, 1)) (k : vx_Note p l e R s m args below meth c H locs cells slots Q (F0 m pc ls rest) "java/lang/ArithmeticException" "/ by zero") :
    W p l e R s m args below meth c H locs cells slots Q (F0 m pc ls (.int b :: .int a :: rest)) := by
  intro T hT X
  obtain ⟨t, st, q⟩ := k T hT X
  exact ⟨t, X.iremZero hexec (g := F0 m pc ls (.int b :: .int a :: rest)) rfl (a := a) (rest := rest) (by rw [h0]) (by rw [hb]; exact d) t st, q⟩
theorem vx_ldivZ (hexec : p.tables.exec = Jvm.exec) (hb : c.code = cc) {a b : Int64} (h0 : b = 0) (d : decode cc pc = .ok (.ldiv, 1)) (k : vx_Note p l e R s m args below meth c H locs cells slots Q (F0 m pc ls rest) "java/lang/ArithmeticException" "/ by zero") :
    W p l e R s m args below meth c H locs cells slots Q (F0 m pc ls (.long b :: .long a :: rest)) := by
  intro T hT X
  obtain ⟨t, st, q⟩ := k T hT X
  exact ⟨t, X.ldivZero hexec (g := F0 m pc ls (.long b :: .long a :: rest)) rfl (a := a) (rest := rest) (by rw [h0]) (by rw [hb]; exact d) t st, q⟩
theorem vx_lremZ (hexec : p.tables.exec = Jvm.exec) (hb : c.code = cc) {a b : Int64} (h0 : b = 0) (d : decode cc pc = .ok (.lrem, 1)) (k : vx_Note p l e R s m args below meth c H locs cells slots Q (F0 m pc ls rest) "java/lang/ArithmeticException" "/ by zero") :
    W p l e R s m args below meth c H locs cells slots Q (F0 m pc ls (.long b :: .long a :: rest)) := by
  intro T hT X
  obtain ⟨t, st, q⟩ := k T hT X
  exact ⟨t, X.lremZero hexec (g := F0 m pc ls (.long b :: .long a :: rest)) rfl (a := a) (rest := rest) (by rw [h0]) (by rw [hb]; exact d) t st, q⟩
theorem vx_ialdZ {D : va_G} {cl : List vw_C} {ws : va_W} {tys : List (ClassId × FieldType)} {a : Nat} (hexec : p.tables.exec = Jvm.exec) (hb : c.code = cc) (hK : va_K D cl tys s) (hP : va_P D cl ws H) (q0 t0 : Nat) {cA : ClassId} {n : Nat} {f : Nat → Int32} (ha : ws[q0]? = some (a, .inl (cA, n, .inl f))) (ht : tys[t0]? = some (cA, .int)) {i : Int32} (hout : ¬ vp_in i n) (hdg : decode cc pc = .ok (.iaload, 1))
    (k : ∀ tx : String, tx = (toString "Index " ++ toString i ++ toString " out of bounds for length " ++ toString n : String) → vx_Note p l e R s m args below meth c H locs cells slots Q (F0 m pc ls rest) "java/lang/ArrayIndexOutOfBoundsException" tx) : W p l e R s m args below meth c H locs cells slots Q (F0 m pc ls (.int i :: .ref a :: rest)) := by
  intro T hT X
  obtain ⟨t, st, q⟩ := k _ rfl T hT X
  refine ⟨t, ?_, q⟩
  have h1 := X.ialoadOut hexec (by rw [hT]; exact hP q0 _ ha) ((hK.2 t0 _ ht).1 n (fun j => .int (f j))) (j := i) (by show (i < 0 ∨ (arrV _ _ _).slots.size ≤ _); rw [arrV_size]; exact Classical.byContradiction hout) (g := F0 m pc ls (.int i :: .ref a :: rest)) rfl (rest := rest) rfl (by rw [hb]; exact hdg) t
  simp only [arrV_size] at h1
  exact h1 st
theorem vx_iastZ {D : va_G} {cl : List vw_C} {ws : va_W} {tys : List (ClassId × FieldType)} {a : Nat} (hexec : p.tables.exec = Jvm.exec) (hb : c.code = cc) (hK : va_K D cl tys s) (hP : va_P D cl ws H) (q0 t0 : Nat) {cA : ClassId} {n : Nat} {f : Nat → Int32} (ha : ws[q0]? = some (a, .inl (cA, n, .inl f))) (ht : tys[t0]? = some (cA, .int)) {i : Int32} {x : Int32} (hout : ¬ vp_in i n) (hdg : decode cc pc = .ok (.iastore, 1))
    (k : ∀ tx : String, tx = (toString "Index " ++ toString i ++ toString " out of bounds for length " ++ toString n : String) → vx_Note p l e R s m args below meth c H locs cells slots Q (F0 m pc ls rest) "java/lang/ArrayIndexOutOfBoundsException" tx) : W p l e R s m args below meth c H locs cells slots Q (F0 m pc ls (.int x :: .int i :: .ref a :: rest)) := by
  intro T hT X
  obtain ⟨t, st, q⟩ := k _ rfl T hT X
  refine ⟨t, ?_, q⟩
  have h1 := X.iastoreOut hexec (by rw [hT]; exact hP q0 _ ha) ((hK.2 t0 _ ht).1 n (fun j => .int (f j))) (j := i) (by show (i < 0 ∨ (arrV _ _ _).slots.size ≤ _); rw [arrV_size]; exact Classical.byContradiction hout) (g := F0 m pc ls (.int x :: .int i :: .ref a :: rest)) rfl (rest := rest) rfl (by rw [hb]; exact hdg) t
  simp only [arrV_size] at h1
  exact h1 st
theorem vx_baldZ {D : va_G} {cl : List vw_C} {ws : va_W} {tys : List (ClassId × FieldType)} {a : Nat} (hexec : p.tables.exec = Jvm.exec) (hb : c.code = cc) (hK : va_K D cl tys s) (hP : va_P D cl ws H) (q0 t0 : Nat) {cA : ClassId} {n : Nat} {f : Nat → Int32} (ha : ws[q0]? = some (a, .inl (cA, n, .inl f))) (ht : tys[t0]? = some (cA, .byte)) {i : Int32} (hout : ¬ vp_in i n) (hdg : decode cc pc = .ok (.baload, 1))
    (k : ∀ tx : String, tx = (toString "Index " ++ toString i ++ toString " out of bounds for length " ++ toString n : String) → vx_Note p l e R s m args below meth c H locs cells slots Q (F0 m pc ls rest) "java/lang/ArrayIndexOutOfBoundsException" tx) : W p l e R s m args below meth c H locs cells slots Q (F0 m pc ls (.int i :: .ref a :: rest)) := by
  intro T hT X
  obtain ⟨t, st, q⟩ := k _ rfl T hT X
  refine ⟨t, ?_, q⟩
  have h1 := X.baloadOut hexec (by rw [hT]; exact hP q0 _ ha) ((hK.2 t0 _ ht).1 n (fun j => .int (f j))) (j := i) (by show (i < 0 ∨ (arrV _ _ _).slots.size ≤ _); rw [arrV_size]; exact Classical.byContradiction hout) (g := F0 m pc ls (.int i :: .ref a :: rest)) rfl (rest := rest) rfl (by rw [hb]; exact hdg) t
  simp only [arrV_size] at h1
  exact h1 st
theorem vx_bastZ {D : va_G} {cl : List vw_C} {ws : va_W} {tys : List (ClassId × FieldType)} {a : Nat} (hexec : p.tables.exec = Jvm.exec) (hb : c.code = cc) (hK : va_K D cl tys s) (hP : va_P D cl ws H) (q0 t0 : Nat) {cA : ClassId} {n : Nat} {f : Nat → Int32} (ha : ws[q0]? = some (a, .inl (cA, n, .inl f))) (ht : tys[t0]? = some (cA, .byte)) {i : Int32} {x : Int32} (hout : ¬ vp_in i n) (hdg : decode cc pc = .ok (.bastore, 1))
    (k : ∀ tx : String, tx = (toString "Index " ++ toString i ++ toString " out of bounds for length " ++ toString n : String) → vx_Note p l e R s m args below meth c H locs cells slots Q (F0 m pc ls rest) "java/lang/ArrayIndexOutOfBoundsException" tx) : W p l e R s m args below meth c H locs cells slots Q (F0 m pc ls (.int x :: .int i :: .ref a :: rest)) := by
  intro T hT X
  obtain ⟨t, st, q⟩ := k _ rfl T hT X
  refine ⟨t, ?_, q⟩
  have h1 := X.bastoreOut hexec (by rw [hT]; exact hP q0 _ ha) ((hK.2 t0 _ ht).1 n (fun j => .int (f j))) (j := i) (by show (i < 0 ∨ (arrV _ _ _).slots.size ≤ _); rw [arrV_size]; exact Classical.byContradiction hout) (g := F0 m pc ls (.int x :: .int i :: .ref a :: rest)) rfl (rest := rest) rfl (by rw [hb]; exact hdg) t
  simp only [arrV_size] at h1
  exact h1 st
theorem vx_zaldZ {D : va_G} {cl : List vw_C} {ws : va_W} {tys : List (ClassId × FieldType)} {a : Nat} (hexec : p.tables.exec = Jvm.exec) (hb : c.code = cc) (hK : va_K D cl tys s) (hP : va_P D cl ws H) (q0 t0 : Nat) {cA : ClassId} {n : Nat} {f : Nat → Int32} (ha : ws[q0]? = some (a, .inl (cA, n, .inl f))) (ht : tys[t0]? = some (cA, .boolean)) {i : Int32} (hout : ¬ vp_in i n) (hdg : decode cc pc = .ok (.baload, 1))
    (k : ∀ tx : String, tx = (toString "Index " ++ toString i ++ toString " out of bounds for length " ++ toString n : String) → vx_Note p l e R s m args below meth c H locs cells slots Q (F0 m pc ls rest) "java/lang/ArrayIndexOutOfBoundsException" tx) : W p l e R s m args below meth c H locs cells slots Q (F0 m pc ls (.int i :: .ref a :: rest)) := by
  intro T hT X
  obtain ⟨t, st, q⟩ := k _ rfl T hT X
  refine ⟨t, ?_, q⟩
  have h1 := X.baloadOut hexec (by rw [hT]; exact hP q0 _ ha) ((hK.2 t0 _ ht).1 n (fun j => .int (f j))) (j := i) (by show (i < 0 ∨ (arrV _ _ _).slots.size ≤ _); rw [arrV_size]; exact Classical.byContradiction hout) (g := F0 m pc ls (.int i :: .ref a :: rest)) rfl (rest := rest) rfl (by rw [hb]; exact hdg) t
  simp only [arrV_size] at h1
  exact h1 st
theorem vx_zastZ {D : va_G} {cl : List vw_C} {ws : va_W} {tys : List (ClassId × FieldType)} {a : Nat} (hexec : p.tables.exec = Jvm.exec) (hb : c.code = cc) (hK : va_K D cl tys s) (hP : va_P D cl ws H) (q0 t0 : Nat) {cA : ClassId} {n : Nat} {f : Nat → Int32} (ha : ws[q0]? = some (a, .inl (cA, n, .inl f))) (ht : tys[t0]? = some (cA, .boolean)) {i : Int32} {x : Int32} (hout : ¬ vp_in i n) (hdg : decode cc pc = .ok (.bastore, 1))
    (k : ∀ tx : String, tx = (toString "Index " ++ toString i ++ toString " out of bounds for length " ++ toString n : String) → vx_Note p l e R s m args below meth c H locs cells slots Q (F0 m pc ls rest) "java/lang/ArrayIndexOutOfBoundsException" tx) : W p l e R s m args below meth c H locs cells slots Q (F0 m pc ls (.int x :: .int i :: .ref a :: rest)) := by
  intro T hT X
  obtain ⟨t, st, q⟩ := k _ rfl T hT X
  refine ⟨t, ?_, q⟩
  have h1 := X.bastoreOut hexec (by rw [hT]; exact hP q0 _ ha) ((hK.2 t0 _ ht).1 n (fun j => .int (f j))) (j := i) (by show (i < 0 ∨ (arrV _ _ _).slots.size ≤ _); rw [arrV_size]; exact Classical.byContradiction hout) (g := F0 m pc ls (.int x :: .int i :: .ref a :: rest)) rfl (rest := rest) rfl (by rw [hb]; exact hdg) t
  simp only [arrV_size] at h1
  exact h1 st
theorem vx_caldZ {D : va_G} {cl : List vw_C} {ws : va_W} {tys : List (ClassId × FieldType)} {a : Nat} (hexec : p.tables.exec = Jvm.exec) (hb : c.code = cc) (hK : va_K D cl tys s) (hP : va_P D cl ws H) (q0 t0 : Nat) {cA : ClassId} {n : Nat} {f : Nat → Int32} (ha : ws[q0]? = some (a, .inl (cA, n, .inl f))) (ht : tys[t0]? = some (cA, .char)) {i : Int32} (hout : ¬ vp_in i n) (hdg : decode cc pc = .ok (.caload, 1))
    (k : ∀ tx : String, tx = (toString "Index " ++ toString i ++ toString " out of bounds for length " ++ toString n : String) → vx_Note p l e R s m args below meth c H locs cells slots Q (F0 m pc ls rest) "java/lang/ArrayIndexOutOfBoundsException" tx) : W p l e R s m args below meth c H locs cells slots Q (F0 m pc ls (.int i :: .ref a :: rest)) := by
  intro T hT X
  obtain ⟨t, st, q⟩ := k _ rfl T hT X
  refine ⟨t, ?_, q⟩
  have h1 := X.caloadOut hexec (by rw [hT]; exact hP q0 _ ha) ((hK.2 t0 _ ht).1 n (fun j => .int (f j))) (j := i) (by show (i < 0 ∨ (arrV _ _ _).slots.size ≤ _); rw [arrV_size]; exact Classical.byContradiction hout) (g := F0 m pc ls (.int i :: .ref a :: rest)) rfl (rest := rest) rfl (by rw [hb]; exact hdg) t
  simp only [arrV_size] at h1
  exact h1 st
theorem vx_castZ {D : va_G} {cl : List vw_C} {ws : va_W} {tys : List (ClassId × FieldType)} {a : Nat} (hexec : p.tables.exec = Jvm.exec) (hb : c.code = cc) (hK : va_K D cl tys s) (hP : va_P D cl ws H) (q0 t0 : Nat) {cA : ClassId} {n : Nat} {f : Nat → Int32} (ha : ws[q0]? = some (a, .inl (cA, n, .inl f))) (ht : tys[t0]? = some (cA, .char)) {i : Int32} {x : Int32} (hout : ¬ vp_in i n) (hdg : decode cc pc = .ok (.castore, 1))
    (k : ∀ tx : String, tx = (toString "Index " ++ toString i ++ toString " out of bounds for length " ++ toString n : String) → vx_Note p l e R s m args below meth c H locs cells slots Q (F0 m pc ls rest) "java/lang/ArrayIndexOutOfBoundsException" tx) : W p l e R s m args below meth c H locs cells slots Q (F0 m pc ls (.int x :: .int i :: .ref a :: rest)) := by
  intro T hT X
  obtain ⟨t, st, q⟩ := k _ rfl T hT X
  refine ⟨t, ?_, q⟩
  have h1 := X.castoreOut hexec (by rw [hT]; exact hP q0 _ ha) ((hK.2 t0 _ ht).1 n (fun j => .int (f j))) (j := i) (by show (i < 0 ∨ (arrV _ _ _).slots.size ≤ _); rw [arrV_size]; exact Classical.byContradiction hout) (g := F0 m pc ls (.int x :: .int i :: .ref a :: rest)) rfl (rest := rest) rfl (by rw [hb]; exact hdg) t
  simp only [arrV_size] at h1
  exact h1 st
theorem vx_saldZ {D : va_G} {cl : List vw_C} {ws : va_W} {tys : List (ClassId × FieldType)} {a : Nat} (hexec : p.tables.exec = Jvm.exec) (hb : c.code = cc) (hK : va_K D cl tys s) (hP : va_P D cl ws H) (q0 t0 : Nat) {cA : ClassId} {n : Nat} {f : Nat → Int32} (ha : ws[q0]? = some (a, .inl (cA, n, .inl f))) (ht : tys[t0]? = some (cA, .short)) {i : Int32} (hout : ¬ vp_in i n) (hdg : decode cc pc = .ok (.saload, 1))
    (k : ∀ tx : String, tx = (toString "Index " ++ toString i ++ toString " out of bounds for length " ++ toString n : String) → vx_Note p l e R s m args below meth c H locs cells slots Q (F0 m pc ls rest) "java/lang/ArrayIndexOutOfBoundsException" tx) : W p l e R s m args below meth c H locs cells slots Q (F0 m pc ls (.int i :: .ref a :: rest)) := by
  intro T hT X
  obtain ⟨t, st, q⟩ := k _ rfl T hT X
  refine ⟨t, ?_, q⟩
  have h1 := X.saloadOut hexec (by rw [hT]; exact hP q0 _ ha) ((hK.2 t0 _ ht).1 n (fun j => .int (f j))) (j := i) (by show (i < 0 ∨ (arrV _ _ _).slots.size ≤ _); rw [arrV_size]; exact Classical.byContradiction hout) (g := F0 m pc ls (.int i :: .ref a :: rest)) rfl (rest := rest) rfl (by rw [hb]; exact hdg) t
  simp only [arrV_size] at h1
  exact h1 st
theorem vx_sastZ {D : va_G} {cl : List vw_C} {ws : va_W} {tys : List (ClassId × FieldType)} {a : Nat} (hexec : p.tables.exec = Jvm.exec) (hb : c.code = cc) (hK : va_K D cl tys s) (hP : va_P D cl ws H) (q0 t0 : Nat) {cA : ClassId} {n : Nat} {f : Nat → Int32} (ha : ws[q0]? = some (a, .inl (cA, n, .inl f))) (ht : tys[t0]? = some (cA, .short)) {i : Int32} {x : Int32} (hout : ¬ vp_in i n) (hdg : decode cc pc = .ok (.sastore, 1))
    (k : ∀ tx : String, tx = (toString "Index " ++ toString i ++ toString " out of bounds for length " ++ toString n : String) → vx_Note p l e R s m args below meth c H locs cells slots Q (F0 m pc ls rest) "java/lang/ArrayIndexOutOfBoundsException" tx) : W p l e R s m args below meth c H locs cells slots Q (F0 m pc ls (.int x :: .int i :: .ref a :: rest)) := by
  intro T hT X
  obtain ⟨t, st, q⟩ := k _ rfl T hT X
  refine ⟨t, ?_, q⟩
  have h1 := X.sastoreOut hexec (by rw [hT]; exact hP q0 _ ha) ((hK.2 t0 _ ht).1 n (fun j => .int (f j))) (j := i) (by show (i < 0 ∨ (arrV _ _ _).slots.size ≤ _); rw [arrV_size]; exact Classical.byContradiction hout) (g := F0 m pc ls (.int x :: .int i :: .ref a :: rest)) rfl (rest := rest) rfl (by rw [hb]; exact hdg) t
  simp only [arrV_size] at h1
  exact h1 st
theorem vx_laldZ {D : va_G} {cl : List vw_C} {ws : va_W} {tys : List (ClassId × FieldType)} {a : Nat} (hexec : p.tables.exec = Jvm.exec) (hb : c.code = cc) (hK : va_K D cl tys s) (hP : va_P D cl ws H) (q0 t0 : Nat) {cA : ClassId} {n : Nat} {f : Nat → Int64} (ha : ws[q0]? = some (a, .inl (cA, n, .inr (.inl f)))) (ht : tys[t0]? = some (cA, .long)) {i : Int32} (hout : ¬ vp_in i n) (hdg : decode cc pc = .ok (.laload, 1))
    (k : ∀ tx : String, tx = (toString "Index " ++ toString i ++ toString " out of bounds for length " ++ toString n : String) → vx_Note p l e R s m args below meth c H locs cells slots Q (F0 m pc ls rest) "java/lang/ArrayIndexOutOfBoundsException" tx) : W p l e R s m args below meth c H locs cells slots Q (F0 m pc ls (.int i :: .ref a :: rest)) := by
  intro T hT X
  obtain ⟨t, st, q⟩ := k _ rfl T hT X
  refine ⟨t, ?_, q⟩
  have h1 := X.laloadOut hexec (by rw [hT]; exact hP q0 _ ha) ((hK.2 t0 _ ht).1 n (fun j => .long (f j))) (j := i) (by show (i < 0 ∨ (arrV _ _ _).slots.size ≤ _); rw [arrV_size]; exact Classical.byContradiction hout) (g := F0 m pc ls (.int i :: .ref a :: rest)) rfl (rest := rest) rfl (by rw [hb]; exact hdg) t
  simp only [arrV_size] at h1
  exact h1 st
theorem vx_lastZ {D : va_G} {cl : List vw_C} {ws : va_W} {tys : List (ClassId × FieldType)} {a : Nat} (hexec : p.tables.exec = Jvm.exec) (hb : c.code = cc) (hK : va_K D cl tys s) (hP : va_P D cl ws H) (q0 t0 : Nat) {cA : ClassId} {n : Nat} {f : Nat → Int64} (ha : ws[q0]? = some (a, .inl (cA, n, .inr (.inl f)))) (ht : tys[t0]? = some (cA, .long)) {i : Int32} {x : Int64} (hout : ¬ vp_in i n) (hdg : decode cc pc = .ok (.lastore, 1))
    (k : ∀ tx : String, tx = (toString "Index " ++ toString i ++ toString " out of bounds for length " ++ toString n : String) → vx_Note p l e R s m args below meth c H locs cells slots Q (F0 m pc ls rest) "java/lang/ArrayIndexOutOfBoundsException" tx) : W p l e R s m args below meth c H locs cells slots Q (F0 m pc ls (.long x :: .int i :: .ref a :: rest)) := by
  intro T hT X
  obtain ⟨t, st, q⟩ := k _ rfl T hT X
  refine ⟨t, ?_, q⟩
  have h1 := X.lastoreOut hexec (by rw [hT]; exact hP q0 _ ha) ((hK.2 t0 _ ht).1 n (fun j => .long (f j))) (j := i) (by show (i < 0 ∨ (arrV _ _ _).slots.size ≤ _); rw [arrV_size]; exact Classical.byContradiction hout) (g := F0 m pc ls (.long x :: .int i :: .ref a :: rest)) rfl (rest := rest) rfl (by rw [hb]; exact hdg) t
  simp only [arrV_size] at h1
  exact h1 st
theorem vx_faldZ {D : va_G} {cl : List vw_C} {ws : va_W} {tys : List (ClassId × FieldType)} {a : Nat} (hexec : p.tables.exec = Jvm.exec) (hb : c.code = cc) (hK : va_K D cl tys s) (hP : va_P D cl ws H) (q0 t0 : Nat) {cA : ClassId} {n : Nat} {f : Nat → UInt32} (ha : ws[q0]? = some (a, .inl (cA, n, .inr (.inr (.inl f))))) (ht : tys[t0]? = some (cA, .float)) {i : Int32} (hout : ¬ vp_in i n) (hdg : decode cc pc = .ok (.faload, 1))
    (k : ∀ tx : String, tx = (toString "Index " ++ toString i ++ toString " out of bounds for length " ++ toString n : String) → vx_Note p l e R s m args below meth c H locs cells slots Q (F0 m pc ls rest) "java/lang/ArrayIndexOutOfBoundsException" tx) : W p l e R s m args below meth c H locs cells slots Q (F0 m pc ls (.int i :: .ref a :: rest)) := by
  intro T hT X
  obtain ⟨t, st, q⟩ := k _ rfl T hT X
  refine ⟨t, ?_, q⟩
  have h1 := X.faloadOut hexec (by rw [hT]; exact hP q0 _ ha) ((hK.2 t0 _ ht).1 n (fun j => .float (f j))) (j := i) (by show (i < 0 ∨ (arrV _ _ _).slots.size ≤ _); rw [arrV_size]; exact Classical.byContradiction hout) (g := F0 m pc ls (.int i :: .ref a :: rest)) rfl (rest := rest) rfl (by rw [hb]; exact hdg) t
  simp only [arrV_size] at h1
  exact h1 st
theorem vx_fastZ {D : va_G} {cl : List vw_C} {ws : va_W} {tys : List (ClassId × FieldType)} {a : Nat} (hexec : p.tables.exec = Jvm.exec) (hb : c.code = cc) (hK : va_K D cl tys s) (hP : va_P D cl ws H) (q0 t0 : Nat) {cA : ClassId} {n : Nat} {f : Nat → UInt32} (ha : ws[q0]? = some (a, .inl (cA, n, .inr (.inr (.inl f))))) (ht : tys[t0]? = some (cA, .float)) {i : Int32} {x : UInt32} (hout : ¬ vp_in i n) (hdg : decode cc pc = .ok (.fastore, 1))
    (k : ∀ tx : String, tx = (toString "Index " ++ toString i ++ toString " out of bounds for length " ++ toString n : String) → vx_Note p l e R s m args below meth c H locs cells slots Q (F0 m pc ls rest) "java/lang/ArrayIndexOutOfBoundsException" tx) : W p l e R s m args below meth c H locs cells slots Q (F0 m pc ls (.float x :: .int i :: .ref a :: rest)) := by
  intro T hT X
  obtain ⟨t, st, q⟩ := k _ rfl T hT X
  refine ⟨t, ?_, q⟩
  have h1 := X.fastoreOut hexec (by rw [hT]; exact hP q0 _ ha) ((hK.2 t0 _ ht).1 n (fun j => .float (f j))) (j := i) (by show (i < 0 ∨ (arrV _ _ _).slots.size ≤ _); rw [arrV_size]; exact Classical.byContradiction hout) (g := F0 m pc ls (.float x :: .int i :: .ref a :: rest)) rfl (rest := rest) rfl (by rw [hb]; exact hdg) t
  simp only [arrV_size] at h1
  exact h1 st
theorem vx_daldZ {D : va_G} {cl : List vw_C} {ws : va_W} {tys : List (ClassId × FieldType)} {a : Nat} (hexec : p.tables.exec = Jvm.exec) (hb : c.code = cc) (hK : va_K D cl tys s) (hP : va_P D cl ws H) (q0 t0 : Nat) {cA : ClassId} {n : Nat} {f : Nat → UInt64} (ha : ws[q0]? = some (a, .inl (cA, n, .inr (.inr (.inr (.inl f)))))) (ht : tys[t0]? = some (cA, .double)) {i : Int32} (hout : ¬ vp_in i n) (hdg : decode cc pc = .ok (.daload, 1))
    (k : ∀ tx : String, tx = (toString "Index " ++ toString i ++ toString " out of bounds for length " ++ toString n : String) → vx_Note p l e R s m args below meth c H locs cells slots Q (F0 m pc ls rest) "java/lang/ArrayIndexOutOfBoundsException" tx) : W p l e R s m args below meth c H locs cells slots Q (F0 m pc ls (.int i :: .ref a :: rest)) := by
  intro T hT X
  obtain ⟨t, st, q⟩ := k _ rfl T hT X
  refine ⟨t, ?_, q⟩
  have h1 := X.daloadOut hexec (by rw [hT]; exact hP q0 _ ha) ((hK.2 t0 _ ht).1 n (fun j => .double (f j))) (j := i) (by show (i < 0 ∨ (arrV _ _ _).slots.size ≤ _); rw [arrV_size]; exact Classical.byContradiction hout) (g := F0 m pc ls (.int i :: .ref a :: rest)) rfl (rest := rest) rfl (by rw [hb]; exact hdg) t
  simp only [arrV_size] at h1
  exact h1 st
theorem vx_dastZ {D : va_G} {cl : List vw_C} {ws : va_W} {tys : List (ClassId × FieldType)} {a : Nat} (hexec : p.tables.exec = Jvm.exec) (hb : c.code = cc) (hK : va_K D cl tys s) (hP : va_P D cl ws H) (q0 t0 : Nat) {cA : ClassId} {n : Nat} {f : Nat → UInt64} (ha : ws[q0]? = some (a, .inl (cA, n, .inr (.inr (.inr (.inl f)))))) (ht : tys[t0]? = some (cA, .double)) {i : Int32} {x : UInt64} (hout : ¬ vp_in i n) (hdg : decode cc pc = .ok (.dastore, 1))
    (k : ∀ tx : String, tx = (toString "Index " ++ toString i ++ toString " out of bounds for length " ++ toString n : String) → vx_Note p l e R s m args below meth c H locs cells slots Q (F0 m pc ls rest) "java/lang/ArrayIndexOutOfBoundsException" tx) : W p l e R s m args below meth c H locs cells slots Q (F0 m pc ls (.double x :: .int i :: .ref a :: rest)) := by
  intro T hT X
  obtain ⟨t, st, q⟩ := k _ rfl T hT X
  refine ⟨t, ?_, q⟩
  have h1 := X.dastoreOut hexec (by rw [hT]; exact hP q0 _ ha) ((hK.2 t0 _ ht).1 n (fun j => .double (f j))) (j := i) (by show (i < 0 ∨ (arrV _ _ _).slots.size ≤ _); rw [arrV_size]; exact Classical.byContradiction hout) (g := F0 m pc ls (.double x :: .int i :: .ref a :: rest)) rfl (rest := rest) rfl (by rw [hb]; exact hdg) t
  simp only [arrV_size] at h1
  exact h1 st
theorem vx_arraylengthN (hexec : p.tables.exec = Jvm.exec) (hb : c.code = cc) (hdg : decode cc pc = .ok (.arraylength, 1)) (k : vx_NoteN p l e R s m args below meth c H locs cells slots Q (F0 m pc ls rest)) : W p l e R s m args below meth c H locs cells slots Q (F0 m pc ls (.null :: rest)) := by
  intro T hT X
  obtain ⟨t, st, q⟩ := k T hT X
  exact ⟨t, X.arraylengthNull hexec (g := F0 m pc ls (.null :: rest)) rfl (rest := rest) rfl (by rw [hb]; exact hdg) t st, q⟩
theorem vx_ialoadN (hexec : p.tables.exec = Jvm.exec) (hb : c.code = cc) {i : Int32} (hdg : decode cc pc = .ok (.iaload, 1)) (k : vx_NoteN p l e R s m args below meth c H locs cells slots Q (F0 m pc ls rest)) : W p l e R s m args below meth c H locs cells slots Q (F0 m pc ls (.int i :: .null :: rest)) := by
  intro T hT X
  obtain ⟨t, st, q⟩ := k T hT X
  exact ⟨t, X.ialoadNull hexec (g := F0 m pc ls (.int i :: .null :: rest)) rfl (rest := rest) rfl (by rw [hb]; exact hdg) t st, q⟩
theorem vx_laloadN (hexec : p.tables.exec = Jvm.exec) (hb : c.code = cc) {i : Int32} (hdg : decode cc pc = .ok (.laload, 1)) (k : vx_NoteN p l e R s m args below meth c H locs cells slots Q (F0 m pc ls rest)) : W p l e R s m args below meth c H locs cells slots Q (F0 m pc ls (.int i :: .null :: rest)) := by
  intro T hT X
  obtain ⟨t, st, q⟩ := k T hT X
  exact ⟨t, X.laloadNull hexec (g := F0 m pc ls (.int i :: .null :: rest)) rfl (rest := rest) rfl (by rw [hb]; exact hdg) t st, q⟩
theorem vx_faloadN (hexec : p.tables.exec = Jvm.exec) (hb : c.code = cc) {i : Int32} (hdg : decode cc pc = .ok (.faload, 1)) (k : vx_NoteN p l e R s m args below meth c H locs cells slots Q (F0 m pc ls rest)) : W p l e R s m args below meth c H locs cells slots Q (F0 m pc ls (.int i :: .null :: rest)) := by
  intro T hT X
  obtain ⟨t, st, q⟩ := k T hT X
  exact ⟨t, X.faloadNull hexec (g := F0 m pc ls (.int i :: .null :: rest)) rfl (rest := rest) rfl (by rw [hb]; exact hdg) t st, q⟩
theorem vx_daloadN (hexec : p.tables.exec = Jvm.exec) (hb : c.code = cc) {i : Int32} (hdg : decode cc pc = .ok (.daload, 1)) (k : vx_NoteN p l e R s m args below meth c H locs cells slots Q (F0 m pc ls rest)) : W p l e R s m args below meth c H locs cells slots Q (F0 m pc ls (.int i :: .null :: rest)) := by
  intro T hT X
  obtain ⟨t, st, q⟩ := k T hT X
  exact ⟨t, X.daloadNull hexec (g := F0 m pc ls (.int i :: .null :: rest)) rfl (rest := rest) rfl (by rw [hb]; exact hdg) t st, q⟩
theorem vx_aaloadN (hexec : p.tables.exec = Jvm.exec) (hb : c.code = cc) {i : Int32} (hdg : decode cc pc = .ok (.aaload, 1)) (k : vx_NoteN p l e R s m args below meth c H locs cells slots Q (F0 m pc ls rest)) : W p l e R s m args below meth c H locs cells slots Q (F0 m pc ls (.int i :: .null :: rest)) := by
  intro T hT X
  obtain ⟨t, st, q⟩ := k T hT X
  exact ⟨t, X.aaloadNull hexec (g := F0 m pc ls (.int i :: .null :: rest)) rfl (rest := rest) rfl (by rw [hb]; exact hdg) t st, q⟩
theorem vx_baloadN (hexec : p.tables.exec = Jvm.exec) (hb : c.code = cc) {i : Int32} (hdg : decode cc pc = .ok (.baload, 1)) (k : vx_NoteN p l e R s m args below meth c H locs cells slots Q (F0 m pc ls rest)) : W p l e R s m args below meth c H locs cells slots Q (F0 m pc ls (.int i :: .null :: rest)) := by
  intro T hT X
  obtain ⟨t, st, q⟩ := k T hT X
  exact ⟨t, X.baloadNull hexec (g := F0 m pc ls (.int i :: .null :: rest)) rfl (rest := rest) rfl (by rw [hb]; exact hdg) t st, q⟩
theorem vx_caloadN (hexec : p.tables.exec = Jvm.exec) (hb : c.code = cc) {i : Int32} (hdg : decode cc pc = .ok (.caload, 1)) (k : vx_NoteN p l e R s m args below meth c H locs cells slots Q (F0 m pc ls rest)) : W p l e R s m args below meth c H locs cells slots Q (F0 m pc ls (.int i :: .null :: rest)) := by
  intro T hT X
  obtain ⟨t, st, q⟩ := k T hT X
  exact ⟨t, X.caloadNull hexec (g := F0 m pc ls (.int i :: .null :: rest)) rfl (rest := rest) rfl (by rw [hb]; exact hdg) t st, q⟩
theorem vx_saloadN (hexec : p.tables.exec = Jvm.exec) (hb : c.code = cc) {i : Int32} (hdg : decode cc pc = .ok (.saload, 1)) (k : vx_NoteN p l e R s m args below meth c H locs cells slots Q (F0 m pc ls rest)) : W p l e R s m args below meth c H locs cells slots Q (F0 m pc ls (.int i :: .null :: rest)) := by
  intro T hT X
  obtain ⟨t, st, q⟩ := k T hT X
  exact ⟨t, X.saloadNull hexec (g := F0 m pc ls (.int i :: .null :: rest)) rfl (rest := rest) rfl (by rw [hb]; exact hdg) t st, q⟩
theorem vx_iastoreN (hexec : p.tables.exec = Jvm.exec) (hb : c.code = cc) {x : Int32} {i : Int32} (hdg : decode cc pc = .ok (.iastore, 1)) (k : vx_NoteN p l e R s m args below meth c H locs cells slots Q (F0 m pc ls rest)) : W p l e R s m args below meth c H locs cells slots Q (F0 m pc ls (.int x :: .int i :: .null :: rest)) := by
  intro T hT X
  obtain ⟨t, st, q⟩ := k T hT X
  exact ⟨t, X.iastoreNull hexec (g := F0 m pc ls (.int x :: .int i :: .null :: rest)) rfl (rest := rest) rfl (by rw [hb]; exact hdg) t st, q⟩
theorem vx_lastoreN (hexec : p.tables.exec = Jvm.exec) (hb : c.code = cc) {x : Int64} {i : Int32} (hdg : decode cc pc = .ok (.lastore, 1)) (k : vx_NoteN p l e R s m args below meth c H locs cells slots Q (F0 m pc ls rest)) : W p l e R s m args below meth c H locs cells slots Q (F0 m pc ls (.long x :: .int i :: .null :: rest)) := by
  intro T hT X
  obtain ⟨t, st, q⟩ := k T hT X
  exact ⟨t, X.lastoreNull hexec (g := F0 m pc ls (.long x :: .int i :: .null :: rest)) rfl (rest := rest) rfl (by rw [hb]; exact hdg) t st, q⟩
theorem vx_fastoreN (hexec : p.tables.exec = Jvm.exec) (hb : c.code = cc) {x : UInt32} {i : Int32} (hdg : decode cc pc = .ok (.fastore, 1)) (k : vx_NoteN p l e R s m args below meth c H locs cells slots Q (F0 m pc ls rest)) : W p l e R s m args below meth c H locs cells slots Q (F0 m pc ls (.float x :: .int i :: .null :: rest)) := by
  intro T hT X
  obtain ⟨t, st, q⟩ := k T hT X
  exact ⟨t, X.fastoreNull hexec (g := F0 m pc ls (.float x :: .int i :: .null :: rest)) rfl (rest := rest) rfl (by rw [hb]; exact hdg) t st, q⟩
theorem vx_dastoreN (hexec : p.tables.exec = Jvm.exec) (hb : c.code = cc) {x : UInt64} {i : Int32} (hdg : decode cc pc = .ok (.dastore, 1)) (k : vx_NoteN p l e R s m args below meth c H locs cells slots Q (F0 m pc ls rest)) : W p l e R s m args below meth c H locs cells slots Q (F0 m pc ls (.double x :: .int i :: .null :: rest)) := by
  intro T hT X
  obtain ⟨t, st, q⟩ := k T hT X
  exact ⟨t, X.dastoreNull hexec (g := F0 m pc ls (.double x :: .int i :: .null :: rest)) rfl (rest := rest) rfl (by rw [hb]; exact hdg) t st, q⟩
theorem vx_bastoreN (hexec : p.tables.exec = Jvm.exec) (hb : c.code = cc) {x : Int32} {i : Int32} (hdg : decode cc pc = .ok (.bastore, 1)) (k : vx_NoteN p l e R s m args below meth c H locs cells slots Q (F0 m pc ls rest)) : W p l e R s m args below meth c H locs cells slots Q (F0 m pc ls (.int x :: .int i :: .null :: rest)) := by
  intro T hT X
  obtain ⟨t, st, q⟩ := k T hT X
  exact ⟨t, X.bastoreNull hexec (g := F0 m pc ls (.int x :: .int i :: .null :: rest)) rfl (rest := rest) rfl (by rw [hb]; exact hdg) t st, q⟩
theorem vx_castoreN (hexec : p.tables.exec = Jvm.exec) (hb : c.code = cc) {x : Int32} {i : Int32} (hdg : decode cc pc = .ok (.castore, 1)) (k : vx_NoteN p l e R s m args below meth c H locs cells slots Q (F0 m pc ls rest)) : W p l e R s m args below meth c H locs cells slots Q (F0 m pc ls (.int x :: .int i :: .null :: rest)) := by
  intro T hT X
  obtain ⟨t, st, q⟩ := k T hT X
  exact ⟨t, X.castoreNull hexec (g := F0 m pc ls (.int x :: .int i :: .null :: rest)) rfl (rest := rest) rfl (by rw [hb]; exact hdg) t st, q⟩
theorem vx_sastoreN (hexec : p.tables.exec = Jvm.exec) (hb : c.code = cc) {x : Int32} {i : Int32} (hdg : decode cc pc = .ok (.sastore, 1)) (k : vx_NoteN p l e R s m args below meth c H locs cells slots Q (F0 m pc ls rest)) : W p l e R s m args below meth c H locs cells slots Q (F0 m pc ls (.int x :: .int i :: .null :: rest)) := by
  intro T hT X
  obtain ⟨t, st, q⟩ := k T hT X
  exact ⟨t, X.sastoreNull hexec (g := F0 m pc ls (.int x :: .int i :: .null :: rest)) rfl (rest := rest) rfl (by rw [hb]; exact hdg) t st, q⟩
theorem vx_invokeN {own C : String} {index maxL : Nat} {y : MethodName} {bytes : ByteArray} {ret : Option FieldType} (hexec : p.tables.exec = Jvm.exec) (hb : c.code = cc) (hown : s.vm.findClass own = some m.cls) (hlink : (Cond.methodLink own index y).before args s = true) (hinst : (Cond.instanceMethod y).before args s = true) (hcode : (Cond.code y bytes maxL ret).before args s = true) (hsel : (Cond.selects C y y).before args s = true)
    (hx : y.cls ≠ "java/lang/invoke/MethodHandle" ∧ y.cls ≠ "java/lang/invoke/VarHandle") {As : List Value} (hlen : (parseMethodDescriptor y.desc).map (fun d => d.parameters.length) = some As.length) (hdg : decode cc pc = .ok (.invokevirtual index, 3))
    (k : vx_NoteN p l e R s m args below meth c H locs cells slots Q (F0 m pc ls rest)) {st0 : List Value} (hst : st0 = As.reverse ++ .null :: rest) : W p l e R s m args below meth c H locs cells slots Q (F0 m pc ls st0) := by
  intro T hT X
  obtain ⟨r0, r, hn, hrm, hstR, hsigR⟩ := va_Decl.of hinst hcode
  obtain ⟨c2, r2, m2, q1, q2, q3, q4, kP, hkP, hkPi⟩ := Cond.selects_spec hsel
  cases hn.symm.trans q3
  have hl9 : As.length = r.sig.parameters.length := by
    rw [hsigR] at hlen
    exact (Option.some.inj hlen).symm
  obtain ⟨vm', X1, st1⟩ := X.invokevirtualNull hexec hown hlink hn hrm hstR hkP hkPi hx (g := F0 m pc ls st0) rfl (argsL := As) (rest := rest) hl9 hst (by rw [hb]; exact hdg)
  obtain ⟨t, st, q⟩ := k (T.setVm vm') hT X1
  exact ⟨t, st1 t st, q⟩
theorem vx_newarrayZ {atype : ArrayType} (hexec : p.tables.exec = Jvm.exec) (hb : c.code = cc) {n : Int32} (h0 : n < 0) (hdg : decode cc pc = .ok (.newarray atype, 2)) (k : ∀ tx : String, tx = toString n → vx_Note p l e R s m args below meth c H locs cells slots Q (F0 m pc ls rest) "java/lang/NegativeArraySizeException" tx) : W p l e R s m args below meth c H locs cells slots Q (F0 m pc ls (.int n :: rest)) := by
  intro T hT X
  obtain ⟨t, st, q⟩ := k _ rfl T hT X
  exact ⟨t, X.newarrayNegative hexec (g := F0 m pc ls (.int n :: rest)) rfl h0 (rest := rest) rfl (by rw [hb]; exact hdg) t st, q⟩
end
end VXM
/-! ===== END ===== -/
end
section
/-! ===== BEGIN printed: names, fields, word lists, decode rows ===== -/
def RX0 : String := "ClaqueRow$Cue"
def TX0 : u_T := fun k => match k with
  | 0 => ("ClaqueRow$Cue", "singer", "LClaqueRow$Singer;", true)
  | 1 => ("ClaqueRow$Cue", "kind", "C", true)
  | 2 => ("ClaqueRow$Cue", "tick", "I", true)
  | 3 => ("ClaqueRow$Cue", "force", "I", true)
  | _ => ("ClaqueRow$Cue", "ticks", "I", true)
def tyX0 : Nat → FieldType := fun k => match k with
  | 0 => .object "ClaqueRow$Singer"
  | 1 => .char
  | 2 => .int
  | 3 => .int
  | _ => .int
abbrev wsX00 : List Cond := u_ws RX0 TX0 5
theorem nmX0 : ∀ a, a < 5 → ∀ b, b < 5 → a ≠ b → (TX0 a).2.1 ≠ (TX0 b).2.1 := by decide +kernel
theorem tyX0_ok : ∀ k, k < 5 → parseFieldDescriptor (TX0 k).2.2.1 = some (tyX0 k) := by decide +kernel
abbrev cX0_init : ByteArray := prog_2_method_1_code
def yX0_init : MethodName := ⟨RX0, "<init>", "(LClaqueRow$Singer;CIII)V"⟩
abbrev cX0_lastTick : ByteArray := prog_2_method_2_code
def yX0_lastTick : MethodName := ⟨RX0, "lastTick", "()I"⟩
abbrev cX0_isOnIn : ByteArray := prog_2_method_3_code
def yX0_isOnIn : MethodName := ⟨RX0, "isOnIn", "(I)Z"⟩
def RX1 : String := "ClaqueRow$Evening"
def TX1 : u_T := fun k => match k with
  | 0 => ("ClaqueRow$Evening", "cues", "Ljava/util/ArrayList;", true)
  | 1 => ("ClaqueRow$Evening", "level", "I", false)
  | 2 => ("ClaqueRow$Evening", "ticks", "I", false)
  | 3 => ("ClaqueRow$Evening", "loudTicks", "I", false)
  | 4 => ("ClaqueRow$Evening", "calls", "I", false)
  | 5 => ("ClaqueRow$Evening", "hisses", "I", false)
  | _ => ("ClaqueRow$Evening", "suspicions", "I", false)
def tyX1 : Nat → FieldType := fun k => match k with
  | 0 => .object "java/util/ArrayList"
  | 1 => .int
  | 2 => .int
  | 3 => .int
  | 4 => .int
  | 5 => .int
  | _ => .int
abbrev wsX10 : List Cond := u_ws RX1 TX1 7
theorem nmX1 : ∀ a, a < 7 → ∀ b, b < 7 → a ≠ b → (TX1 a).2.1 ≠ (TX1 b).2.1 := by decide +kernel
theorem tyX1_ok : ∀ k, k < 7 → parseFieldDescriptor (TX1 k).2.2.1 = some (tyX1 k) := by decide +kernel
abbrev cX1_init : ByteArray := prog_3_method_1_code
def yX1_init : MethodName := ⟨RX1, "<init>", "()V"⟩
abbrev cX1_begin : ByteArray := prog_3_method_2_code
def yX1_begin : MethodName := ⟨RX1, "begin", "()V"⟩
abbrev cX1_handsAreFoundOut : ByteArray := prog_3_method_3_code
def yX1_handsAreFoundOut : MethodName := ⟨RX1, "handsAreFoundOut", "()Z"⟩
abbrev cX1_passTick : ByteArray := prog_3_method_4_code
def yX1_passTick : MethodName := ⟨RX1, "passTick", "(LClaqueRow$House;)V"⟩
abbrev cX1_soundSeat : ByteArray := prog_3_method_5_code
def yX1_soundSeat : MethodName := ⟨RX1, "soundSeat", "(LClaqueRow$House;II)V"⟩
abbrev cX1_noiseOf : ByteArray := prog_3_method_6_code
def yX1_noiseOf : MethodName := ⟨RX1, "noiseOf", "(LClaqueRow$Hand;)I"⟩
abbrev cX1_hearNoise : ByteArray := prog_3_method_7_code
def yX1_hearNoise : MethodName := ⟨RX1, "hearNoise", "(I)V"⟩
abbrev cX1_lastBegunCue : ByteArray := prog_3_method_8_code
def yX1_lastBegunCue : MethodName := ⟨RX1, "lastBegunCue", "()LClaqueRow$Cue;"⟩
abbrev cX1_judgeCues : ByteArray := prog_3_method_9_code
def yX1_judgeCues : MethodName := ⟨RX1, "judgeCues", "(II)V"⟩
abbrev cX1_hasBegunCueFor : ByteArray := prog_3_method_10_code
def yX1_hasBegunCueFor : MethodName := ⟨RX1, "hasBegunCueFor", "(LClaqueRow$Singer;)Z"⟩
def RX2 : String := "ClaqueRow$Hand"
def TX2 : u_T := fun k => match k with
  | 0 => ("ClaqueRow$Hand", "kind", "C", true)
  | 1 => ("ClaqueRow$Hand", "strength", "I", true)
  | 2 => ("ClaqueRow$Hand", "rank", "I", true)
  | 3 => ("ClaqueRow$Hand", "price", "I", true)
  | 4 => ("ClaqueRow$Hand", "money", "I", false)
  | _ => ("ClaqueRow$Hand", "seat", "LClaqueRow$Seat;", false)
def tyX2 : Nat → FieldType := fun k => match k with
  | 0 => .char
  | 1 => .int
  | 2 => .int
  | 3 => .int
  | 4 => .int
  | _ => .object "ClaqueRow$Seat"
abbrev wsX20 : List Cond := u_ws RX2 TX2 6
theorem nmX2 : ∀ a, a < 6 → ∀ b, b < 6 → a ≠ b → (TX2 a).2.1 ≠ (TX2 b).2.1 := by decide +kernel
theorem tyX2_ok : ∀ k, k < 6 → parseFieldDescriptor (TX2 k).2.2.1 = some (tyX2 k) := by decide +kernel
abbrev cX2_init : ByteArray := prog_4_method_1_code
def yX2_init : MethodName := ⟨RX2, "<init>", "(CIII)V"⟩
abbrev cX2_parts : ByteArray := prog_4_method_2_code
def yX2_parts : MethodName := ⟨RX2, "parts", "()I"⟩
abbrev cX2_follows : ByteArray := prog_4_method_3_code
def yX2_follows : MethodName := ⟨RX2, "follows", "(LClaqueRow$Cue;)Z"⟩
def RX3 : String := "ClaqueRow$House"
def TX3 : u_T := fun k => match k with
  | 0 => ("ClaqueRow$House", "seats", "[LClaqueRow$Seat;", true)
  | 1 => ("ClaqueRow$House", "rows", "I", false)
  | _ => ("ClaqueRow$House", "columns", "I", false)
def tyX3 : Nat → FieldType := fun k => match k with
  | 0 => .array (.object "ClaqueRow$Seat")
  | 1 => .int
  | _ => .int
abbrev wsX30 : List Cond := u_ws RX3 TX3 3
theorem nmX3 : ∀ a, a < 3 → ∀ b, b < 3 → a ≠ b → (TX3 a).2.1 ≠ (TX3 b).2.1 := by decide +kernel
theorem tyX3_ok : ∀ k, k < 3 → parseFieldDescriptor (TX3 k).2.2.1 = some (tyX3 k) := by decide +kernel
abbrev cX3_init : ByteArray := prog_5_method_1_code
def yX3_init : MethodName := ⟨RX3, "<init>", "()V"⟩
abbrev cX3_build : ByteArray := prog_5_method_2_code
def yX3_build : MethodName := ⟨RX3, "build", "(II)V"⟩
abbrev cX3_seatOrNull : ByteArray := prog_5_method_3_code
def yX3_seatOrNull : MethodName := ⟨RX3, "seatOrNull", "(II)LClaqueRow$Seat;"⟩
abbrev cX3_forgetEvening : ByteArray := prog_5_method_4_code
def yX3_forgetEvening : MethodName := ⟨RX3, "forgetEvening", "()V"⟩
abbrev cX3_keepTickAhead : ByteArray := prog_5_method_5_code
def yX3_keepTickAhead : MethodName := ⟨RX3, "keepTickAhead", "()V"⟩
abbrev cX3_around : ByteArray := prog_5_method_6_code
def yX3_around : MethodName := ⟨RX3, "around", "(II)I"⟩
abbrev cX3_noiseSum : ByteArray := prog_5_method_7_code
def yX3_noiseSum : MethodName := ⟨RX3, "noiseSum", "()I"⟩
abbrev cX3_countJoined : ByteArray := prog_5_method_8_code
def yX3_countJoined : MethodName := ⟨RX3, "countJoined", "()I"⟩
abbrev cX3_countSeated : ByteArray := prog_5_method_9_code
def yX3_countSeated : MethodName := ⟨RX3, "countSeated", "(C)I"⟩
abbrev cX3_countNoisy : ByteArray := prog_5_method_10_code
def yX3_countNoisy : MethodName := ⟨RX3, "countNoisy", "(C)I"⟩
abbrev cX3_isInOrder : ByteArray := prog_5_method_11_code
def yX3_isInOrder : MethodName := ⟨RX3, "isInOrder", "()Z"⟩
def RX4 : String := "ClaqueRow$Seat"
def TX4 : u_T := fun k => match k with
  | 0 => ("ClaqueRow$Seat", "who", "C", false)
  | 1 => ("ClaqueRow$Seat", "threshold", "I", false)
  | 2 => ("ClaqueRow$Seat", "hand", "LClaqueRow$Hand;", false)
  | 3 => ("ClaqueRow$Seat", "noise", "I", false)
  | 4 => ("ClaqueRow$Seat", "noiseAhead", "I", false)
  | 5 => ("ClaqueRow$Seat", "joined", "Z", false)
  | 6 => ("ClaqueRow$Seat", "joins", "I", false)
  | 7 => ("ClaqueRow$Seat", "hissed", "Z", false)
  | _ => ("ClaqueRow$Seat", "hissedAhead", "Z", false)
def tyX4 : Nat → FieldType := fun k => match k with
  | 0 => .char
  | 1 => .int
  | 2 => .object "ClaqueRow$Hand"
  | 3 => .int
  | 4 => .int
  | 5 => .boolean
  | 6 => .int
  | 7 => .boolean
  | _ => .boolean
abbrev wsX40 : List Cond := u_ws RX4 TX4 9
theorem nmX4 : ∀ a, a < 9 → ∀ b, b < 9 → a ≠ b → (TX4 a).2.1 ≠ (TX4 b).2.1 := by decide +kernel
theorem tyX4_ok : ∀ k, k < 9 → parseFieldDescriptor (TX4 k).2.2.1 = some (tyX4 k) := by decide +kernel
abbrev cX4_init : ByteArray := prog_6_method_1_code
def yX4_init : MethodName := ⟨RX4, "<init>", "()V"⟩
abbrev cX4_take : ByteArray := prog_6_method_2_code
def yX4_take : MethodName := ⟨RX4, "take", "(C)C"⟩
abbrev cX4_forgetEvening : ByteArray := prog_6_method_3_code
def yX4_forgetEvening : MethodName := ⟨RX4, "forgetEvening", "()V"⟩
abbrev cX4_keepTickAhead : ByteArray := prog_6_method_4_code
def yX4_keepTickAhead : MethodName := ⟨RX4, "keepTickAhead", "()V"⟩
abbrev cX4_heardByNeighbours : ByteArray := prog_6_method_5_code
def yX4_heardByNeighbours : MethodName := ⟨RX4, "heardByNeighbours", "()I"⟩
abbrev cX4_tirednessNow : ByteArray := prog_6_method_6_code
def yX4_tirednessNow : MethodName := ⟨RX4, "tirednessNow", "()I"⟩
abbrev cX4_soundAsPayer : ByteArray := prog_6_method_7_code
def yX4_soundAsPayer : MethodName := ⟨RX4, "soundAsPayer", "(I)V"⟩
abbrev cX4_isInOrder : ByteArray := prog_6_method_8_code
def yX4_isInOrder : MethodName := ⟨RX4, "isInOrder", "()Z"⟩
def RX5 : String := "ClaqueRow$Singer"
def TX5 : u_T := fun k => match k with
  | 0 => ("ClaqueRow$Singer", "night", "I", true)
  | 1 => ("ClaqueRow$Singer", "perCall", "I", true)
  | 2 => ("ClaqueRow$Singer", "calls", "I", false)
  | _ => ("ClaqueRow$Singer", "owed", "I", false)
def tyX5 : Nat → FieldType := fun k => match k with
  | 0 => .int
  | 1 => .int
  | 2 => .int
  | _ => .int
abbrev wsX50 : List Cond := u_ws RX5 TX5 4
theorem nmX5 : ∀ a, a < 4 → ∀ b, b < 4 → a ≠ b → (TX5 a).2.1 ≠ (TX5 b).2.1 := by decide +kernel
theorem tyX5_ok : ∀ k, k < 4 → parseFieldDescriptor (TX5 k).2.2.1 = some (tyX5 k) := by decide +kernel
abbrev cX5_init : ByteArray := prog_7_method_1_code
def yX5_init : MethodName := ⟨RX5, "<init>", "(II)V"⟩
def RX6 : String := "ClaqueRow$Troupe"
def TX6 : u_T := fun k => match k with
  | _ => ("ClaqueRow$Troupe", "hands", "Ljava/util/ArrayList;", true)
def tyX6 : Nat → FieldType := fun k => match k with
  | _ => .object "java/util/ArrayList"
abbrev wsX60 : List Cond := u_ws RX6 TX6 1
theorem nmX6 : ∀ a, a < 1 → ∀ b, b < 1 → a ≠ b → (TX6 a).2.1 ≠ (TX6 b).2.1 := by decide +kernel
theorem tyX6_ok : ∀ k, k < 1 → parseFieldDescriptor (TX6 k).2.2.1 = some (tyX6 k) := by decide +kernel
abbrev cX6_init : ByteArray := prog_8_method_1_code
def yX6_init : MethodName := ⟨RX6, "<init>", "()V"⟩
abbrev cX6_holds : ByteArray := prog_8_method_2_code
def yX6_holds : MethodName := ⟨RX6, "holds", "(II)Z"⟩
abbrev cX6_shareOut : ByteArray := prog_8_method_3_code
def yX6_shareOut : MethodName := ⟨RX6, "shareOut", "(I)I"⟩
abbrev cX6_cutShare : ByteArray := prog_8_method_4_code
def yX6_cutShare : MethodName := ⟨RX6, "cutShare", "(JI)I"⟩
abbrev cX6_cheapestPlan : ByteArray := prog_8_method_5_code
def yX6_cheapestPlan : MethodName := ⟨RX6, "cheapestPlan", "(I)I"⟩
abbrev cX6_priceOf : ByteArray := prog_8_method_6_code
def yX6_priceOf : MethodName := ⟨RX6, "priceOf", "(I)I"⟩
abbrev cX6_strengthOf : ByteArray := prog_8_method_7_code
def yX6_strengthOf : MethodName := ⟨RX6, "strengthOf", "(I)I"⟩
abbrev cX6_isBetter : ByteArray := prog_8_method_8_code
def yX6_isBetter : MethodName := ⟨RX6, "isBetter", "(II)Z"⟩
abbrev cX6_isInOrder : ByteArray := prog_8_method_9_code
def yX6_isInOrder : MethodName := ⟨RX6, "isInOrder", "()Z"⟩
def RX7 : String := "ClaqueRow"
def TX7 : u_T := fun k => match k with
  | 0 => ("ClaqueRow", "house", "LClaqueRow$House;", true)
  | 1 => ("ClaqueRow", "troupe", "LClaqueRow$Troupe;", true)
  | 2 => ("ClaqueRow", "singers", "Ljava/util/ArrayList;", true)
  | 3 => ("ClaqueRow", "evening", "LClaqueRow$Evening;", true)
  | 4 => ("ClaqueRow", "purse", "I", false)
  | _ => ("ClaqueRow", "chiefsMoney", "I", false)
def tyX7 : Nat → FieldType := fun k => match k with
  | 0 => .object "ClaqueRow$House"
  | 1 => .object "ClaqueRow$Troupe"
  | 2 => .object "java/util/ArrayList"
  | 3 => .object "ClaqueRow$Evening"
  | 4 => .int
  | _ => .int
abbrev wsX70 : List Cond := u_ws RX7 TX7 6
theorem nmX7 : ∀ a, a < 6 → ∀ b, b < 6 → a ≠ b → (TX7 a).2.1 ≠ (TX7 b).2.1 := by decide +kernel
theorem tyX7_ok : ∀ k, k < 6 → parseFieldDescriptor (TX7 k).2.2.1 = some (tyX7 k) := by decide +kernel
abbrev cX7_init : ByteArray := prog_1_method_1_code
def yX7_init : MethodName := ⟨RX7, "<init>", "()V"⟩
abbrev cX7_newHouse : ByteArray := prog_1_method_2_code
def yX7_newHouse : MethodName := ⟨RX7, "newHouse", "(II)I"⟩
abbrev cX7_seatPayer : ByteArray := prog_1_method_3_code
def yX7_seatPayer : MethodName := ⟨RX7, "seatPayer", "(III)C"⟩
abbrev cX7_seatRival : ByteArray := prog_1_method_4_code
def yX7_seatRival : MethodName := ⟨RX7, "seatRival", "(II)C"⟩
abbrev cX7_seatHand : ByteArray := prog_1_method_5_code
def yX7_seatHand : MethodName := ⟨RX7, "seatHand", "(III)C"⟩
abbrev cX7_clearSeat : ByteArray := prog_1_method_6_code
def yX7_clearSeat : MethodName := ⟨RX7, "clearSeat", "(II)C"⟩
abbrev cX7_seatAt : ByteArray := prog_1_method_7_code
def yX7_seatAt : MethodName := ⟨RX7, "seatAt", "(II)C"⟩
abbrev cX7_addHand : ByteArray := prog_1_method_8_code
def yX7_addHand : MethodName := ⟨RX7, "addHand", "(CIII)I"⟩
abbrev cX7_isSeated : ByteArray := prog_1_method_9_code
def yX7_isSeated : MethodName := ⟨RX7, "isSeated", "(I)Z"⟩
abbrev cX7_addSinger : ByteArray := prog_1_method_10_code
def yX7_addSinger : MethodName := ⟨RX7, "addSinger", "(II)I"⟩
abbrev cX7_addCue : ByteArray := prog_1_method_11_code
def yX7_addCue : MethodName := ⟨RX7, "addCue", "(ICIII)I"⟩
abbrev cX7_setLevel : ByteArray := prog_1_method_12_code
def yX7_setLevel : MethodName := ⟨RX7, "setLevel", "(I)I"⟩
abbrev cX7_run : ByteArray := prog_1_method_13_code
def yX7_run : MethodName := ⟨RX7, "run", "(I)I"⟩
abbrev cX7_noiseAt : ByteArray := prog_1_method_14_code
def yX7_noiseAt : MethodName := ⟨RX7, "noiseAt", "(II)I"⟩
abbrev cX7_noise : ByteArray := prog_1_method_15_code
def yX7_noise : MethodName := ⟨RX7, "noise", "()I"⟩
abbrev cX7_joining : ByteArray := prog_1_method_16_code
def yX7_joining : MethodName := ⟨RX7, "joining", "()I"⟩
abbrev cX7_hisses : ByteArray := prog_1_method_17_code
def yX7_hisses : MethodName := ⟨RX7, "hisses", "()I"⟩
abbrev cX7_tiredness : ByteArray := prog_1_method_18_code
def yX7_tiredness : MethodName := ⟨RX7, "tiredness", "(II)I"⟩
abbrev cX7_callsOf : ByteArray := prog_1_method_19_code
def yX7_callsOf : MethodName := ⟨RX7, "callsOf", "(I)I"⟩
abbrev cX7_calls : ByteArray := prog_1_method_20_code
def yX7_calls : MethodName := ⟨RX7, "calls", "()I"⟩
abbrev cX7_suspicions : ByteArray := prog_1_method_21_code
def yX7_suspicions : MethodName := ⟨RX7, "suspicions", "()I"⟩
abbrev cX7_areFoundOut : ByteArray := prog_1_method_22_code
def yX7_areFoundOut : MethodName := ⟨RX7, "areFoundOut", "()Z"⟩
abbrev cX7_endEvening : ByteArray := prog_1_method_23_code
def yX7_endEvening : MethodName := ⟨RX7, "endEvening", "()I"⟩
abbrev cX7_pay : ByteArray := prog_1_method_24_code
def yX7_pay : MethodName := ⟨RX7, "pay", "(II)I"⟩
abbrev cX7_owed : ByteArray := prog_1_method_25_code
def yX7_owed : MethodName := ⟨RX7, "owed", "(I)I"⟩
abbrev cX7_purse : ByteArray := prog_1_method_26_code
def yX7_purse : MethodName := ⟨RX7, "purse", "()I"⟩
abbrev cX7_share : ByteArray := prog_1_method_27_code
def yX7_share : MethodName := ⟨RX7, "share", "()I"⟩
abbrev cX7_moneyOf : ByteArray := prog_1_method_28_code
def yX7_moneyOf : MethodName := ⟨RX7, "moneyOf", "(I)I"⟩
abbrev cX7_chiefs : ByteArray := prog_1_method_29_code
def yX7_chiefs : MethodName := ⟨RX7, "chiefs", "()I"⟩
abbrev cX7_planCost : ByteArray := prog_1_method_30_code
def yX7_planCost : MethodName := ⟨RX7, "planCost", "(I)I"⟩
abbrev cX7_isPlanned : ByteArray := prog_1_method_31_code
def yX7_isPlanned : MethodName := ⟨RX7, "isPlanned", "(II)Z"⟩
abbrev cX7_checksum : ByteArray := prog_1_method_32_code
def yX7_checksum : MethodName := ⟨RX7, "checksum", "()J"⟩
abbrev cX7_joiningShare : ByteArray := prog_1_method_33_code
def yX7_joiningShare : MethodName := ⟨RX7, "joiningShare", "()F"⟩
abbrev cX7_meanNoise : ByteArray := prog_1_method_34_code
def yX7_meanNoise : MethodName := ⟨RX7, "meanNoise", "()D"⟩
abbrev cX7_isSound : ByteArray := prog_1_method_35_code
def yX7_isSound : MethodName := ⟨RX7, "isSound", "()Z"⟩
abbrev cX7_checkRange : ByteArray := prog_1_method_36_code
def yX7_checkRange : MethodName := ⟨RX7, "checkRange", "(III)V"⟩
abbrev cX7_checkCueKind : ByteArray := prog_1_method_37_code
def yX7_checkCueKind : MethodName := ⟨RX7, "checkCueKind", "(C)V"⟩
abbrev cX7_checkHouse : ByteArray := prog_1_method_38_code
def yX7_checkHouse : MethodName := ⟨RX7, "checkHouse", "()V"⟩
abbrev cX7_existingSeat : ByteArray := prog_1_method_39_code
def yX7_existingSeat : MethodName := ⟨RX7, "existingSeat", "(II)LClaqueRow$Seat;"⟩
abbrev cX7_existingHand : ByteArray := prog_1_method_40_code
def yX7_existingHand : MethodName := ⟨RX7, "existingHand", "(I)LClaqueRow$Hand;"⟩
abbrev cX7_existingSinger : ByteArray := prog_1_method_41_code
def yX7_existingSinger : MethodName := ⟨RX7, "existingSinger", "(I)LClaqueRow$Singer;"⟩
abbrev cX7_existingPlan : ByteArray := prog_1_method_42_code
def yX7_existingPlan : MethodName := ⟨RX7, "existingPlan", "(I)I"⟩
abbrev cX7_beginEvening : ByteArray := prog_1_method_43_code
def yX7_beginEvening : MethodName := ⟨RX7, "beginEvening", "()V"⟩
abbrev cX7_billFor : ByteArray := prog_1_method_44_code
def yX7_billFor : MethodName := ⟨RX7, "billFor", "(LClaqueRow$Singer;)I"⟩
def RX8 : String := "ClaqueRowModel"
def TX8 : u_T := fun k => match k with
  | 0 => ("ClaqueRowModel", "who", "[C", true)
  | 1 => ("ClaqueRowModel", "threshold", "[I", true)
  | 2 => ("ClaqueRowModel", "handIn", "[I", true)
  | 3 => ("ClaqueRowModel", "noise", "[I", true)
  | 4 => ("ClaqueRowModel", "joined", "[I", true)
  | 5 => ("ClaqueRowModel", "before", "[I", true)
  | 6 => ("ClaqueRowModel", "joins", "[Z", true)
  | 7 => ("ClaqueRowModel", "hissed", "[Z", true)
  | 8 => ("ClaqueRowModel", "hissedBefore", "[Z", true)
  | 9 => ("ClaqueRowModel", "handKind", "[C", true)
  | 10 => ("ClaqueRowModel", "cueKind", "[C", true)
  | 11 => ("ClaqueRowModel", "strength", "[I", true)
  | 12 => ("ClaqueRowModel", "rank", "[I", true)
  | 13 => ("ClaqueRowModel", "price", "[I", true)
  | 14 => ("ClaqueRowModel", "money", "[I", true)
  | 15 => ("ClaqueRowModel", "night", "[I", true)
  | 16 => ("ClaqueRowModel", "perCall", "[I", true)
  | 17 => ("ClaqueRowModel", "owed", "[I", true)
  | 18 => ("ClaqueRowModel", "callsOf", "[I", true)
  | 19 => ("ClaqueRowModel", "cueSinger", "[I", true)
  | 20 => ("ClaqueRowModel", "cueTick", "[I", true)
  | 21 => ("ClaqueRowModel", "cueForce", "[I", true)
  | 22 => ("ClaqueRowModel", "cueTicks", "[I", true)
  | 23 => ("ClaqueRowModel", "rows", "I", false)
  | 24 => ("ClaqueRowModel", "wide", "I", false)
  | 25 => ("ClaqueRowModel", "hands", "I", false)
  | 26 => ("ClaqueRowModel", "singers", "I", false)
  | 27 => ("ClaqueRowModel", "cues", "I", false)
  | 28 => ("ClaqueRowModel", "level", "I", false)
  | 29 => ("ClaqueRowModel", "ticks", "I", false)
  | 30 => ("ClaqueRowModel", "loud", "I", false)
  | 31 => ("ClaqueRowModel", "calls", "I", false)
  | 32 => ("ClaqueRowModel", "hisses", "I", false)
  | 33 => ("ClaqueRowModel", "suspicions", "I", false)
  | 34 => ("ClaqueRowModel", "purse", "I", false)
  | 35 => ("ClaqueRowModel", "chiefs", "I", false)
  | _ => ("ClaqueRowModel", "thrown", "I", false)
def tyX8 : Nat → FieldType := fun k => match k with
  | 0 => .array .char
  | 1 => .array .int
  | 2 => .array .int
  | 3 => .array .int
  | 4 => .array .int
  | 5 => .array .int
  | 6 => .array .boolean
  | 7 => .array .boolean
  | 8 => .array .boolean
  | 9 => .array .char
  | 10 => .array .char
  | 11 => .array .int
  | 12 => .array .int
  | 13 => .array .int
  | 14 => .array .int
  | 15 => .array .int
  | 16 => .array .int
  | 17 => .array .int
  | 18 => .array .int
  | 19 => .array .int
  | 20 => .array .int
  | 21 => .array .int
  | 22 => .array .int
  | 23 => .int
  | 24 => .int
  | 25 => .int
  | 26 => .int
  | 27 => .int
  | 28 => .int
  | 29 => .int
  | 30 => .int
  | 31 => .int
  | 32 => .int
  | 33 => .int
  | 34 => .int
  | 35 => .int
  | _ => .int
abbrev wsX80 : List Cond := u_ws RX8 TX8 37
theorem nmX8 : ∀ a, a < 37 → ∀ b, b < 37 → a ≠ b → (TX8 a).2.1 ≠ (TX8 b).2.1 := by decide +kernel
theorem tyX8_ok : ∀ k, k < 37 → parseFieldDescriptor (TX8 k).2.2.1 = some (tyX8 k) := by decide +kernel
abbrev cX8_init : ByteArray := prog_10_method_1_code
def yX8_init : MethodName := ⟨RX8, "<init>", "()V"⟩
abbrev cX8_thrown : ByteArray := prog_10_method_2_code
def yX8_thrown : MethodName := ⟨RX8, "thrown", "()I"⟩
abbrev cX8_in : ByteArray := prog_10_method_3_code
def yX8_in : MethodName := ⟨RX8, "in", "(III)Z"⟩
abbrev cX8_least : ByteArray := prog_10_method_4_code
def yX8_least : MethodName := ⟨RX8, "least", "(II)I"⟩
abbrev cX8_most : ByteArray := prog_10_method_5_code
def yX8_most : MethodName := ⟨RX8, "most", "(II)I"⟩
abbrev cX8_fails : ByteArray := prog_10_method_6_code
def yX8_fails : MethodName := ⟨RX8, "fails", "(I)I"⟩
abbrev cX8_failsAs : ByteArray := prog_10_method_7_code
def yX8_failsAs : MethodName := ⟨RX8, "failsAs", "(I)C"⟩
abbrev cX8_tells : ByteArray := prog_10_method_8_code
def yX8_tells : MethodName := ⟨RX8, "tells", "(I)I"⟩
abbrev cX8_tellsAs : ByteArray := prog_10_method_9_code
def yX8_tellsAs : MethodName := ⟨RX8, "tellsAs", "(C)C"⟩
abbrev cX8_failsIf : ByteArray := prog_10_method_10_code
def yX8_failsIf : MethodName := ⟨RX8, "failsIf", "(I)Z"⟩
abbrev cX8_isSeat : ByteArray := prog_10_method_11_code
def yX8_isSeat : MethodName := ⟨RX8, "isSeat", "(II)Z"⟩
abbrev cX8_isHand : ByteArray := prog_10_method_12_code
def yX8_isHand : MethodName := ⟨RX8, "isHand", "(I)Z"⟩
abbrev cX8_isSinger : ByteArray := prog_10_method_13_code
def yX8_isSinger : MethodName := ⟨RX8, "isSinger", "(I)Z"⟩
abbrev cX8_empties : ByteArray := prog_10_method_14_code
def yX8_empties : MethodName := ⟨RX8, "empties", "(I)V"⟩
abbrev cX8_rests : ByteArray := prog_10_method_15_code
def yX8_rests : MethodName := ⟨RX8, "rests", "(I)V"⟩
abbrev cX8_begins : ByteArray := prog_10_method_16_code
def yX8_begins : MethodName := ⟨RX8, "begins", "()V"⟩
abbrev cX8_newHouse : ByteArray := prog_10_method_17_code
def yX8_newHouse : MethodName := ⟨RX8, "newHouse", "(II)I"⟩
abbrev cX8_seatPayer : ByteArray := prog_10_method_18_code
def yX8_seatPayer : MethodName := ⟨RX8, "seatPayer", "(III)C"⟩
abbrev cX8_seatRival : ByteArray := prog_10_method_19_code
def yX8_seatRival : MethodName := ⟨RX8, "seatRival", "(II)C"⟩
abbrev cX8_seatHand : ByteArray := prog_10_method_20_code
def yX8_seatHand : MethodName := ⟨RX8, "seatHand", "(III)C"⟩
abbrev cX8_clearSeat : ByteArray := prog_10_method_21_code
def yX8_clearSeat : MethodName := ⟨RX8, "clearSeat", "(II)C"⟩
abbrev cX8_seatAt : ByteArray := prog_10_method_22_code
def yX8_seatAt : MethodName := ⟨RX8, "seatAt", "(II)C"⟩
abbrev cX8_isKind : ByteArray := prog_10_method_23_code
def yX8_isKind : MethodName := ⟨RX8, "isKind", "(CZ)Z"⟩
abbrev cX8_addHand : ByteArray := prog_10_method_24_code
def yX8_addHand : MethodName := ⟨RX8, "addHand", "(CIII)I"⟩
abbrev cX8_isSeated : ByteArray := prog_10_method_25_code
def yX8_isSeated : MethodName := ⟨RX8, "isSeated", "(I)Z"⟩
abbrev cX8_addSinger : ByteArray := prog_10_method_26_code
def yX8_addSinger : MethodName := ⟨RX8, "addSinger", "(II)I"⟩
abbrev cX8_addCue : ByteArray := prog_10_method_27_code
def yX8_addCue : MethodName := ⟨RX8, "addCue", "(ICIII)I"⟩
abbrev cX8_setLevel : ByteArray := prog_10_method_28_code
def yX8_setLevel : MethodName := ⟨RX8, "setLevel", "(I)I"⟩
abbrev cX8_handNoise : ByteArray := prog_10_method_29_code
def yX8_handNoise : MethodName := ⟨RX8, "handNoise", "(I)I"⟩
abbrev cX8_around : ByteArray := prog_10_method_30_code
def yX8_around : MethodName := ⟨RX8, "around", "(I)I"⟩
abbrev cX8_sits : ByteArray := prog_10_method_31_code
def yX8_sits : MethodName := ⟨RX8, "sits", "(I)V"⟩
abbrev cX8_calling : ByteArray := prog_10_method_32_code
def yX8_calling : MethodName := ⟨RX8, "calling", "()V"⟩
abbrev cX8_noisy : ByteArray := prog_10_method_33_code
def yX8_noisy : MethodName := ⟨RX8, "noisy", "(C)I"⟩
abbrev cX8_summed : ByteArray := prog_10_method_34_code
def yX8_summed : MethodName := ⟨RX8, "summed", "()I"⟩
abbrev cX8_goes : ByteArray := prog_10_method_35_code
def yX8_goes : MethodName := ⟨RX8, "goes", "()V"⟩
abbrev cX8_run : ByteArray := prog_10_method_36_code
def yX8_run : MethodName := ⟨RX8, "run", "(I)I"⟩
abbrev cX8_noiseAt : ByteArray := prog_10_method_37_code
def yX8_noiseAt : MethodName := ⟨RX8, "noiseAt", "(II)I"⟩
abbrev cX8_noise : ByteArray := prog_10_method_38_code
def yX8_noise : MethodName := ⟨RX8, "noise", "()I"⟩
abbrev cX8_joiners : ByteArray := prog_10_method_39_code
def yX8_joiners : MethodName := ⟨RX8, "joiners", "()I"⟩
abbrev cX8_joining : ByteArray := prog_10_method_40_code
def yX8_joining : MethodName := ⟨RX8, "joining", "()I"⟩
abbrev cX8_hisses : ByteArray := prog_10_method_41_code
def yX8_hisses : MethodName := ⟨RX8, "hisses", "()I"⟩
abbrev cX8_tiredness : ByteArray := prog_10_method_42_code
def yX8_tiredness : MethodName := ⟨RX8, "tiredness", "(II)I"⟩
abbrev cX8_callsOf : ByteArray := prog_10_method_43_code
def yX8_callsOf : MethodName := ⟨RX8, "callsOf", "(I)I"⟩
abbrev cX8_calls : ByteArray := prog_10_method_44_code
def yX8_calls : MethodName := ⟨RX8, "calls", "()I"⟩
abbrev cX8_suspicions : ByteArray := prog_10_method_45_code
def yX8_suspicions : MethodName := ⟨RX8, "suspicions", "()I"⟩
abbrev cX8_areFoundOut : ByteArray := prog_10_method_46_code
def yX8_areFoundOut : MethodName := ⟨RX8, "areFoundOut", "()Z"⟩
abbrev cX8_endEvening : ByteArray := prog_10_method_47_code
def yX8_endEvening : MethodName := ⟨RX8, "endEvening", "()I"⟩
abbrev cX8_pay : ByteArray := prog_10_method_48_code
def yX8_pay : MethodName := ⟨RX8, "pay", "(II)I"⟩
abbrev cX8_owed : ByteArray := prog_10_method_49_code
def yX8_owed : MethodName := ⟨RX8, "owed", "(I)I"⟩
abbrev cX8_purse : ByteArray := prog_10_method_50_code
def yX8_purse : MethodName := ⟨RX8, "purse", "()I"⟩
abbrev cX8_share : ByteArray := prog_10_method_51_code
def yX8_share : MethodName := ⟨RX8, "share", "()I"⟩
abbrev cX8_moneyOf : ByteArray := prog_10_method_52_code
def yX8_moneyOf : MethodName := ⟨RX8, "moneyOf", "(I)I"⟩
abbrev cX8_chiefs : ByteArray := prog_10_method_53_code
def yX8_chiefs : MethodName := ⟨RX8, "chiefs", "()I"⟩
abbrev cX8_summed_ : ByteArray := prog_10_method_54_code
def yX8_summed_ : MethodName := ⟨RX8, "summed", "(II)I"⟩
abbrev cX8_isBetter : ByteArray := prog_10_method_55_code
def yX8_isBetter : MethodName := ⟨RX8, "isBetter", "(II)Z"⟩
abbrev cX8_planned : ByteArray := prog_10_method_56_code
def yX8_planned : MethodName := ⟨RX8, "planned", "(I)I"⟩
abbrev cX8_planCost : ByteArray := prog_10_method_57_code
def yX8_planCost : MethodName := ⟨RX8, "planCost", "(I)I"⟩
abbrev cX8_isPlanned : ByteArray := prog_10_method_58_code
def yX8_isPlanned : MethodName := ⟨RX8, "isPlanned", "(II)Z"⟩
abbrev cX8_checksum : ByteArray := prog_10_method_59_code
def yX8_checksum : MethodName := ⟨RX8, "checksum", "()J"⟩
abbrev cX8_payers : ByteArray := prog_10_method_60_code
def yX8_payers : MethodName := ⟨RX8, "payers", "()I"⟩
abbrev cX8_joiningShare : ByteArray := prog_10_method_61_code
def yX8_joiningShare : MethodName := ⟨RX8, "joiningShare", "()F"⟩
abbrev cX8_meanNoise : ByteArray := prog_10_method_62_code
def yX8_meanNoise : MethodName := ⟨RX8, "meanNoise", "()D"⟩
abbrev cX8_isSound : ByteArray := prog_10_method_63_code
def yX8_isSound : MethodName := ⟨RX8, "isSound", "()Z"⟩
def RJx145de : String := "java/io/Serializable"
def TJx145de : u_T := fun k => match k with
  | _ => ("", "", "", false)
def tyJx145de : Nat → FieldType := fun k => match k with
  | _ => .int
abbrev wsJx145de0 : List Cond := u_ws RJx145de TJx145de 0
theorem nmJx145de : ∀ a, a < 0 → ∀ b, b < 0 → a ≠ b → (TJx145de a).2.1 ≠ (TJx145de b).2.1 := by decide +kernel
theorem tyJx145de_ok : ∀ k, k < 0 → parseFieldDescriptor (TJx145de k).2.2.1 = some (tyJx145de k) := by decide +kernel
def RJx00060 : String := "java/lang/ArrayIndexOutOfBoundsException"
def TJx00060 : u_T := fun k => match k with
  | 0 => ("java/lang/Throwable", "backtrace", "Ljava/lang/Object;", false)
  | 1 => ("java/lang/Throwable", "detailMessage", "Ljava/lang/String;", false)
  | 2 => ("java/lang/Throwable", "cause", "Ljava/lang/Throwable;", false)
  | 3 => ("java/lang/Throwable", "stackTrace", "[Ljava/lang/StackTraceElement;", false)
  | 4 => ("java/lang/Throwable", "depth", "I", false)
  | _ => ("java/lang/Throwable", "suppressedExceptions", "Ljava/util/List;", false)
def tyJx00060 : Nat → FieldType := fun k => match k with
  | 0 => .object "java/lang/Object"
  | 1 => .object "java/lang/String"
  | 2 => .object "java/lang/Throwable"
  | 3 => .array (.object "java/lang/StackTraceElement")
  | 4 => .int
  | _ => .object "java/util/List"
abbrev wsJx000600 : List Cond := u_ws RJx00060 TJx00060 6
theorem nmJx00060 : ∀ a, a < 6 → ∀ b, b < 6 → a ≠ b → (TJx00060 a).2.1 ≠ (TJx00060 b).2.1 := by decide +kernel
theorem tyJx00060_ok : ∀ k, k < 6 → parseFieldDescriptor (TJx00060 k).2.2.1 = some (tyJx00060 k) := by decide +kernel
abbrev cJx00060_init_a7421 : ByteArray := prog_13_method_2_code
def yJx00060_init_a7421 : MethodName := ⟨RJx00060, "<init>", "(Ljava/lang/String;)V"⟩
def RJx8e188 : String := "java/lang/Cloneable"
def TJx8e188 : u_T := fun k => match k with
  | _ => ("", "", "", false)
def tyJx8e188 : Nat → FieldType := fun k => match k with
  | _ => .int
abbrev wsJx8e1880 : List Cond := u_ws RJx8e188 TJx8e188 0
theorem nmJx8e188 : ∀ a, a < 0 → ∀ b, b < 0 → a ≠ b → (TJx8e188 a).2.1 ≠ (TJx8e188 b).2.1 := by decide +kernel
theorem tyJx8e188_ok : ∀ k, k < 0 → parseFieldDescriptor (TJx8e188 k).2.2.1 = some (tyJx8e188 k) := by decide +kernel
def RJ6 : String := "java/lang/Integer"
def TJ6 : u_T := fun k => match k with
  | _ => ("", "", "", false)
def tyJ6 : Nat → FieldType := fun k => match k with
  | _ => .int
abbrev wsJ60 : List Cond := u_ws RJ6 TJ6 0
theorem nmJ6 : ∀ a, a < 0 → ∀ b, b < 0 → a ≠ b → (TJ6 a).2.1 ≠ (TJ6 b).2.1 := by decide +kernel
theorem tyJ6_ok : ∀ k, k < 0 → parseFieldDescriptor (TJ6 k).2.2.1 = some (tyJ6 k) := by decide +kernel
abbrev cJ6_bitCount_0f7a4 : ByteArray := prog_19_method_49_code
def yJ6_bitCount_0f7a4 : MethodName := ⟨RJ6, "bitCount", "(I)I"⟩
def RJxab1ab : String := "java/lang/Iterable"
def TJxab1ab : u_T := fun k => match k with
  | _ => ("", "", "", false)
def tyJxab1ab : Nat → FieldType := fun k => match k with
  | _ => .int
abbrev wsJxab1ab0 : List Cond := u_ws RJxab1ab TJxab1ab 0
theorem nmJxab1ab : ∀ a, a < 0 → ∀ b, b < 0 → a ≠ b → (TJxab1ab a).2.1 ≠ (TJxab1ab b).2.1 := by decide +kernel
theorem tyJxab1ab_ok : ∀ k, k < 0 → parseFieldDescriptor (TJxab1ab k).2.2.1 = some (tyJxab1ab k) := by decide +kernel
def RJ9 : String := "java/lang/Math"
def TJ9 : u_T := fun k => match k with
  | _ => ("", "", "", false)
def tyJ9 : Nat → FieldType := fun k => match k with
  | _ => .int
abbrev wsJ90 : List Cond := u_ws RJ9 TJ9 0
theorem nmJ9 : ∀ a, a < 0 → ∀ b, b < 0 → a ≠ b → (TJ9 a).2.1 ≠ (TJ9 b).2.1 := by decide +kernel
theorem tyJ9_ok : ∀ k, k < 0 → parseFieldDescriptor (TJ9 k).2.2.1 = some (tyJ9 k) := by decide +kernel
abbrev cJ9_max_7cf53 : ByteArray := prog_21_method_65_code
def yJ9_max_7cf53 : MethodName := ⟨RJ9, "max", "(II)I"⟩
abbrev cJ9_min_7cf53 : ByteArray := prog_21_method_69_code
def yJ9_min_7cf53 : MethodName := ⟨RJ9, "min", "(II)I"⟩
def RJ0 : String := "java/lang/String"
def TJ0 : u_T := fun k => match k with
  | 0 => ("java/lang/String", "value", "[B", true)
  | _ => ("java/lang/String", "coder", "B", true)
def tyJ0 : Nat → FieldType := fun k => match k with
  | 0 => .array .byte
  | _ => .byte
abbrev wsJ00 : List Cond := u_ws RJ0 TJ0 2
theorem nmJ0 : ∀ a, a < 2 → ∀ b, b < 2 → a ≠ b → (TJ0 a).2.1 ≠ (TJ0 b).2.1 := by decide +kernel
theorem tyJ0_ok : ∀ k, k < 2 → parseFieldDescriptor (TJ0 k).2.2.1 = some (tyJ0 k) := by decide +kernel
def RJ10 : String := "java/lang/System"
def TJ10 : u_T := fun k => match k with
  | _ => ("", "", "", false)
def tyJ10 : Nat → FieldType := fun k => match k with
  | _ => .int
abbrev wsJ100 : List Cond := u_ws RJ10 TJ10 0
theorem nmJ10 : ∀ a, a < 0 → ∀ b, b < 0 → a ≠ b → (TJ10 a).2.1 ≠ (TJ10 b).2.1 := by decide +kernel
theorem tyJ10_ok : ∀ k, k < 0 → parseFieldDescriptor (TJ10 k).2.2.1 = some (tyJ10 k) := by decide +kernel
def RJxa1e45 : String := "java/util/AbstractCollection"
def TJxa1e45 : u_T := fun k => match k with
  | _ => ("", "", "", false)
def tyJxa1e45 : Nat → FieldType := fun k => match k with
  | _ => .int
abbrev wsJxa1e450 : List Cond := u_ws RJxa1e45 TJxa1e45 0
theorem nmJxa1e45 : ∀ a, a < 0 → ∀ b, b < 0 → a ≠ b → (TJxa1e45 a).2.1 ≠ (TJxa1e45 b).2.1 := by decide +kernel
theorem tyJxa1e45_ok : ∀ k, k < 0 → parseFieldDescriptor (TJxa1e45 k).2.2.1 = some (tyJxa1e45 k) := by decide +kernel
abbrev cJxa1e45_init_da8c8 : ByteArray := prog_27_method_1_code
def yJxa1e45_init_da8c8 : MethodName := ⟨RJxa1e45, "<init>", "()V"⟩
def RJxc12de : String := "java/util/AbstractList"
def TJxc12de : u_T := fun k => match k with
  | _ => ("", "", "", false)
def tyJxc12de : Nat → FieldType := fun k => match k with
  | _ => .int
abbrev wsJxc12de0 : List Cond := u_ws RJxc12de TJxc12de 0
theorem nmJxc12de : ∀ a, a < 0 → ∀ b, b < 0 → a ≠ b → (TJxc12de a).2.1 ≠ (TJxc12de b).2.1 := by decide +kernel
theorem tyJxc12de_ok : ∀ k, k < 0 → parseFieldDescriptor (TJxc12de k).2.2.1 = some (tyJxc12de k) := by decide +kernel
abbrev cJxc12de_init_da8c8 : ByteArray := prog_28_method_1_code
def yJxc12de_init_da8c8 : MethodName := ⟨RJxc12de, "<init>", "()V"⟩
def RJx4a65c : String := "java/util/ArrayList"
def TJx4a65c : u_T := fun k => match k with
  | 0 => ("java/util/AbstractList", "modCount", "I", false)
  | 1 => ("java/util/ArrayList", "elementData", "[Ljava/lang/Object;", false)
  | _ => ("java/util/ArrayList", "size", "I", false)
def tyJx4a65c : Nat → FieldType := fun k => match k with
  | 0 => .int
  | 1 => .array (.object "java/lang/Object")
  | _ => .int
abbrev wsJx4a65c0 : List Cond := u_ws RJx4a65c TJx4a65c 3
theorem nmJx4a65c : ∀ a, a < 3 → ∀ b, b < 3 → a ≠ b → (TJx4a65c a).2.1 ≠ (TJx4a65c b).2.1 := by decide +kernel
theorem tyJx4a65c_ok : ∀ k, k < 3 → parseFieldDescriptor (TJx4a65c k).2.2.1 = some (tyJx4a65c k) := by decide +kernel
abbrev cJx4a65c_init_da8c8 : ByteArray := prog_29_method_2_code
def yJx4a65c_init_da8c8 : MethodName := ⟨RJx4a65c, "<init>", "()V"⟩
abbrev cJx4a65c_grow_92f84 : ByteArray := prog_29_method_6_code
def yJx4a65c_grow_92f84 : MethodName := ⟨RJx4a65c, "grow", "(I)[Ljava/lang/Object;"⟩
abbrev cJx4a65c_grow_d5877 : ByteArray := prog_29_method_7_code
def yJx4a65c_grow_d5877 : MethodName := ⟨RJx4a65c, "grow", "()[Ljava/lang/Object;"⟩
abbrev cJx4a65c_size_8abf5 : ByteArray := prog_29_method_8_code
def yJx4a65c_size_8abf5 : MethodName := ⟨RJx4a65c, "size", "()I"⟩
abbrev cJx4a65c_elementData_915e3 : ByteArray := prog_29_method_18_code
def yJx4a65c_elementData_915e3 : MethodName := ⟨RJx4a65c, "elementData", "(I)Ljava/lang/Object;"⟩
abbrev cJx4a65c_get_915e3 : ByteArray := prog_29_method_20_code
def yJx4a65c_get_915e3 : MethodName := ⟨RJx4a65c, "get", "(I)Ljava/lang/Object;"⟩
abbrev cJx4a65c_add_72be8 : ByteArray := prog_29_method_24_code
def yJx4a65c_add_72be8 : MethodName := ⟨RJx4a65c, "add", "(Ljava/lang/Object;[Ljava/lang/Object;I)V"⟩
abbrev cJx4a65c_add_9ea2d : ByteArray := prog_29_method_25_code
def yJx4a65c_add_9ea2d : MethodName := ⟨RJx4a65c, "add", "(Ljava/lang/Object;)Z"⟩
abbrev cJx4a65c_clear_da8c8 : ByteArray := prog_29_method_40_code
def yJx4a65c_clear_da8c8 : MethodName := ⟨RJx4a65c, "clear", "()V"⟩
def RJ7 : String := "java/util/Arrays"
def TJ7 : u_T := fun k => match k with
  | _ => ("", "", "", false)
def tyJ7 : Nat → FieldType := fun k => match k with
  | _ => .int
abbrev wsJ70 : List Cond := u_ws RJ7 TJ7 0
theorem nmJ7 : ∀ a, a < 0 → ∀ b, b < 0 → a ≠ b → (TJ7 a).2.1 ≠ (TJ7 b).2.1 := by decide +kernel
theorem tyJ7_ok : ∀ k, k < 0 → parseFieldDescriptor (TJ7 k).2.2.1 = some (tyJ7 k) := by decide +kernel
abbrev cJ7_copyOf_1904c : ByteArray := prog_30_method_119_code
def yJ7_copyOf_1904c : MethodName := ⟨RJ7, "copyOf", "([Ljava/lang/Object;I)[Ljava/lang/Object;"⟩
abbrev cJ7_copyOf_6403c : ByteArray := prog_30_method_120_code
def yJ7_copyOf_6403c : MethodName := ⟨RJ7, "copyOf", "([Ljava/lang/Object;ILjava/lang/Class;)[Ljava/lang/Object;"⟩
def RJx5ef63 : String := "java/util/Collection"
def TJx5ef63 : u_T := fun k => match k with
  | _ => ("", "", "", false)
def tyJx5ef63 : Nat → FieldType := fun k => match k with
  | _ => .int
abbrev wsJx5ef630 : List Cond := u_ws RJx5ef63 TJx5ef63 0
theorem nmJx5ef63 : ∀ a, a < 0 → ∀ b, b < 0 → a ≠ b → (TJx5ef63 a).2.1 ≠ (TJx5ef63 b).2.1 := by decide +kernel
theorem tyJx5ef63_ok : ∀ k, k < 0 → parseFieldDescriptor (TJx5ef63 k).2.2.1 = some (tyJx5ef63 k) := by decide +kernel
def RJxbd725 : String := "java/util/List"
def TJxbd725 : u_T := fun k => match k with
  | _ => ("", "", "", false)
def tyJxbd725 : Nat → FieldType := fun k => match k with
  | _ => .int
abbrev wsJxbd7250 : List Cond := u_ws RJxbd725 TJxbd725 0
theorem nmJxbd725 : ∀ a, a < 0 → ∀ b, b < 0 → a ≠ b → (TJxbd725 a).2.1 ≠ (TJxbd725 b).2.1 := by decide +kernel
theorem tyJxbd725_ok : ∀ k, k < 0 → parseFieldDescriptor (TJxbd725 k).2.2.1 = some (tyJxbd725 k) := by decide +kernel
def RJ15 : String := "java/util/Objects"
def TJ15 : u_T := fun k => match k with
  | _ => ("", "", "", false)
def tyJ15 : Nat → FieldType := fun k => match k with
  | _ => .int
abbrev wsJ150 : List Cond := u_ws RJ15 TJ15 0
theorem nmJ15 : ∀ a, a < 0 → ∀ b, b < 0 → a ≠ b → (TJ15 a).2.1 ≠ (TJ15 b).2.1 := by decide +kernel
theorem tyJ15_ok : ∀ k, k < 0 → parseFieldDescriptor (TJ15 k).2.2.1 = some (tyJ15 k) := by decide +kernel
abbrev cJ15_checkIndex_7cf53 : ByteArray := prog_34_method_17_code
def yJ15_checkIndex_7cf53 : MethodName := ⟨RJ15, "checkIndex", "(II)I"⟩
def RJxf0a74 : String := "java/util/RandomAccess"
def TJxf0a74 : u_T := fun k => match k with
  | _ => ("", "", "", false)
def tyJxf0a74 : Nat → FieldType := fun k => match k with
  | _ => .int
abbrev wsJxf0a740 : List Cond := u_ws RJxf0a74 TJxf0a74 0
theorem nmJxf0a74 : ∀ a, a < 0 → ∀ b, b < 0 → a ≠ b → (TJxf0a74 a).2.1 ≠ (TJxf0a74 b).2.1 := by decide +kernel
theorem tyJxf0a74_ok : ∀ k, k < 0 → parseFieldDescriptor (TJxf0a74 k).2.2.1 = some (tyJxf0a74 k) := by decide +kernel
def RJxa66e6 : String := "java/util/SequencedCollection"
def TJxa66e6 : u_T := fun k => match k with
  | _ => ("", "", "", false)
def tyJxa66e6 : Nat → FieldType := fun k => match k with
  | _ => .int
abbrev wsJxa66e60 : List Cond := u_ws RJxa66e6 TJxa66e6 0
theorem nmJxa66e6 : ∀ a, a < 0 → ∀ b, b < 0 → a ≠ b → (TJxa66e6 a).2.1 ≠ (TJxa66e6 b).2.1 := by decide +kernel
theorem tyJxa66e6_ok : ∀ k, k < 0 → parseFieldDescriptor (TJxa66e6 k).2.2.1 = some (tyJxa66e6 k) := by decide +kernel
def RJ8 : String := "jdk/internal/util/ArraysSupport"
def TJ8 : u_T := fun k => match k with
  | _ => ("", "", "", false)
def tyJ8 : Nat → FieldType := fun k => match k with
  | _ => .int
abbrev wsJ80 : List Cond := u_ws RJ8 TJ8 0
theorem nmJ8 : ∀ a, a < 0 → ∀ b, b < 0 → a ≠ b → (TJ8 a).2.1 ≠ (TJ8 b).2.1 := by decide +kernel
theorem tyJ8_ok : ∀ k, k < 0 → parseFieldDescriptor (TJ8 k).2.2.1 = some (tyJ8 k) := by decide +kernel
abbrev cJ8_newLength_cabcc : ByteArray := prog_37_method_27_code
def yJ8_newLength_cabcc : MethodName := ⟨RJ8, "newLength", "(III)I"⟩
abbrev cJ8_hugeLength_7cf53 : ByteArray := prog_37_method_28_code
def yJ8_hugeLength_7cf53 : MethodName := ⟨RJ8, "hugeLength", "(II)I"⟩
def RJ3 : String := "jdk/internal/util/Preconditions"
def TJ3 : u_T := fun k => match k with
  | _ => ("", "", "", false)
def tyJ3 : Nat → FieldType := fun k => match k with
  | _ => .int
abbrev wsJ30 : List Cond := u_ws RJ3 TJ3 0
theorem nmJ3 : ∀ a, a < 0 → ∀ b, b < 0 → a ≠ b → (TJ3 a).2.1 ≠ (TJ3 b).2.1 := by decide +kernel
theorem tyJ3_ok : ∀ k, k < 0 → parseFieldDescriptor (TJ3 k).2.2.1 = some (tyJ3 k) := by decide +kernel
abbrev cJ3_checkIndex_8e157 : ByteArray := prog_38_method_11_code
def yJ3_checkIndex_8e157 : MethodName := ⟨RJ3, "checkIndex", "(IILjava/util/function/BiFunction;)I"⟩
def RL : String := "ClaqueRowLaw"
abbrev cL_newHouse : ByteArray := method_3_code
def yL_newHouse : MethodName := ⟨RL, "newHouse", "(LClaqueRow;II[J)I"⟩
abbrev cL_seatPayer : ByteArray := method_4_code
def yL_seatPayer : MethodName := ⟨RL, "seatPayer", "(LClaqueRow;III[J)I"⟩
abbrev cL_seatRival : ByteArray := method_5_code
def yL_seatRival : MethodName := ⟨RL, "seatRival", "(LClaqueRow;II[J)I"⟩
abbrev cL_seatHand : ByteArray := method_6_code
def yL_seatHand : MethodName := ⟨RL, "seatHand", "(LClaqueRow;III[J)I"⟩
abbrev cL_clearSeat : ByteArray := method_7_code
def yL_clearSeat : MethodName := ⟨RL, "clearSeat", "(LClaqueRow;II[J)I"⟩
abbrev cL_seatAt : ByteArray := method_8_code
def yL_seatAt : MethodName := ⟨RL, "seatAt", "(LClaqueRow;II[J)I"⟩
abbrev cL_addHand : ByteArray := method_9_code
def yL_addHand : MethodName := ⟨RL, "addHand", "(LClaqueRow;CIII[J)I"⟩
abbrev cL_isSeated : ByteArray := method_10_code
def yL_isSeated : MethodName := ⟨RL, "isSeated", "(LClaqueRow;I[J)I"⟩
abbrev cL_addSinger : ByteArray := method_11_code
def yL_addSinger : MethodName := ⟨RL, "addSinger", "(LClaqueRow;II[J)I"⟩
abbrev cL_addCue : ByteArray := method_12_code
def yL_addCue : MethodName := ⟨RL, "addCue", "(LClaqueRow;ICIII[J)I"⟩
abbrev cL_setLevel : ByteArray := method_13_code
def yL_setLevel : MethodName := ⟨RL, "setLevel", "(LClaqueRow;I[J)I"⟩
abbrev cL_run : ByteArray := method_14_code
def yL_run : MethodName := ⟨RL, "run", "(LClaqueRow;I[J)I"⟩
abbrev cL_noiseAt : ByteArray := method_15_code
def yL_noiseAt : MethodName := ⟨RL, "noiseAt", "(LClaqueRow;II[J)I"⟩
abbrev cL_tiredness : ByteArray := method_16_code
def yL_tiredness : MethodName := ⟨RL, "tiredness", "(LClaqueRow;II[J)I"⟩
abbrev cL_callsOf : ByteArray := method_17_code
def yL_callsOf : MethodName := ⟨RL, "callsOf", "(LClaqueRow;I[J)I"⟩
abbrev cL_endEvening : ByteArray := method_18_code
def yL_endEvening : MethodName := ⟨RL, "endEvening", "(LClaqueRow;[J)I"⟩
abbrev cL_pay : ByteArray := method_19_code
def yL_pay : MethodName := ⟨RL, "pay", "(LClaqueRow;II[J)I"⟩
abbrev cL_owed : ByteArray := method_20_code
def yL_owed : MethodName := ⟨RL, "owed", "(LClaqueRow;I[J)I"⟩
abbrev cL_share : ByteArray := method_21_code
def yL_share : MethodName := ⟨RL, "share", "(LClaqueRow;[J)I"⟩
abbrev cL_moneyOf : ByteArray := method_22_code
def yL_moneyOf : MethodName := ⟨RL, "moneyOf", "(LClaqueRow;I[J)I"⟩
abbrev cL_planCost : ByteArray := method_23_code
def yL_planCost : MethodName := ⟨RL, "planCost", "(LClaqueRow;I[J)I"⟩
abbrev cL_isPlanned : ByteArray := method_24_code
def yL_isPlanned : MethodName := ⟨RL, "isPlanned", "(LClaqueRow;II[J)I"⟩
abbrev cL_joiningShare : ByteArray := method_25_code
def yL_joiningShare : MethodName := ⟨RL, "joiningShare", "(LClaqueRow;[D)I"⟩
abbrev cL_meanNoise : ByteArray := method_26_code
def yL_meanNoise : MethodName := ⟨RL, "meanNoise", "(LClaqueRow;[D)I"⟩
abbrev cL_law : ByteArray := code
def yL_law : MethodName := ⟨RL, "law", "([I)Z"⟩
abbrev vwCl : List vw_C := [(RJ0, TJ0, 2), (RJx00060, TJx00060, 6), (RJx4a65c, TJx4a65c, 3), (RX0, TX0, 5), (RX1, TX1, 7), (RX2, TX2, 6), (RX3, TX3, 3), (RX4, TX4, 9), (RX5, TX5, 4), (RX6, TX6, 1), (RX7, TX7, 6), (RX8, TX8, 37)]
/-! ===== one list of words for all methods: the words of the printed lists, each once ===== -/
def zW0 : List Cond := [Cond.code yX0_init cX0_init 6 none, Cond.methodLink RX0 1 objectInit, Cond.instanceMethod objectInit, Cond.code objectInit ⟨#[0xb1]⟩ 1 none, Cond.fieldLink RX0 7 "ClaqueRow$Cue" "singer" "LClaqueRow$Singer;", Cond.fieldLink RX0 13 "ClaqueRow$Cue" "kind" "C", Cond.fieldLink RX0 17 "ClaqueRow$Cue" "tick" "I", Cond.fieldLink RX0 21 "ClaqueRow$Cue" "force" "I", Cond.fieldLink RX0 24 "ClaqueRow$Cue" "ticks" "I", Cond.code yX0_lastTick cX0_lastTick 1 (some .int), Cond.code yX0_isOnIn cX0_isOnIn 2 (some .boolean), Cond.methodLink RX0 27 yX0_lastTick, Cond.instanceMethod yX0_lastTick, Cond.selects RX0 yX0_lastTick yX0_lastTick, Cond.initialized RX0, Cond.code yJxa1e45_init_da8c8 cJxa1e45_init_da8c8 1 none, Cond.methodLink RJxa1e45 1 objectInit, Cond.code yJxc12de_init_da8c8 cJxc12de_init_da8c8 1 none, Cond.fieldLink RJxc12de 7 "java/util/AbstractList" "modCount" "I", Cond.methodLink RJxc12de 1 yJxa1e45_init_da8c8, Cond.instanceMethod yJxa1e45_init_da8c8, Cond.initialized RJxa1e45, Cond.code yJx4a65c_init_da8c8 cJx4a65c_init_da8c8 1 none, Cond.fieldLink RJx4a65c 39 "java/util/ArrayList" "DEFAULTCAPACITY_EMPTY_ELEMENTDATA" "[Ljava/lang/Object;", Cond.fieldLink RJx4a65c 9 "java/util/ArrayList" "elementData" "[Ljava/lang/Object;", Cond.methodLink RJx4a65c 1 yJxc12de_init_da8c8, Cond.instanceMethod yJxc12de_init_da8c8, Cond.initialized RJxc12de, Cond.methodLink RX1 3 objectInit, Cond.classLink RX1 9 RJx4a65c, Cond.instantiable RJx4a65c 3, Cond.initialized RJx4a65c, Cond.fieldLink RX1 12 "ClaqueRow$Evening" "cues" "Ljava/util/ArrayList;", Cond.fieldLink RX1 18 "ClaqueRow$Evening" "level" "I", Cond.fieldLink RX1 22 "ClaqueRow$Evening" "ticks" "I", Cond.fieldLink RX1 25 "ClaqueRow$Evening" "loudTicks" "I", Cond.fieldLink RX1 28 "ClaqueRow$Evening" "calls" "I", Cond.fieldLink RX1 31 "ClaqueRow$Evening" "hisses" "I", Cond.fieldLink RX1 34 "ClaqueRow$Evening" "suspicions" "I", Cond.methodLink RX1 11 yJx4a65c_init_da8c8, Cond.instanceMethod yJx4a65c_init_da8c8, Cond.code yX1_init cX1_init 1 none, Cond.code yJx4a65c_clear_da8c8 cJx4a65c_clear_da8c8 4 none, Cond.fieldLink RJx4a65c 63 "java/util/ArrayList" "modCount" "I", Cond.sameField "java/util/ArrayList" "java/util/AbstractList" "modCount" "I", Cond.fieldLink RJx4a65c 48 "java/util/ArrayList" "size" "I", Cond.code yX1_begin cX1_begin 1 none, Cond.methodLink RX1 37 yJx4a65c_clear_da8c8, Cond.instanceMethod yJx4a65c_clear_da8c8, Cond.selects RJx4a65c yJx4a65c_clear_da8c8 yJx4a65c_clear_da8c8, Cond.code yX1_handsAreFoundOut cX1_handsAreFoundOut 1 (some .boolean), Cond.code yX4_keepTickAhead cX4_keepTickAhead 1 none, Cond.fieldLink RX4 23 "ClaqueRow$Seat" "noise" "I", Cond.fieldLink RX4 26 "ClaqueRow$Seat" "noiseAhead" "I", Cond.fieldLink RX4 36 "ClaqueRow$Seat" "hissed" "Z", Cond.fieldLink RX4 39 "ClaqueRow$Seat" "hissedAhead" "Z", Cond.code yX3_keepTickAhead cX3_keepTickAhead 5 none, Cond.fieldLink RX3 11 "ClaqueRow$House" "seats" "[LClaqueRow$Seat;", Cond.methodLink RX3 32 yX4_keepTickAhead, Cond.instanceMethod yX4_keepTickAhead, Cond.selects RX4 yX4_keepTickAhead yX4_keepTickAhead, Cond.initialized RX4, Cond.code yX3_seatOrNull cX3_seatOrNull 4 (some (.object "ClaqueRow$Seat")), Cond.fieldLink RX3 17 "ClaqueRow$House" "rows" "I", Cond.fieldLink RX3 21 "ClaqueRow$House" "columns" "I", Cond.code yX4_heardByNeighbours cX4_heardByNeighbours 1 (some .int), Cond.code yX3_around cX3_around 7 (some .int), Cond.methodLink RX3 35 yX3_seatOrNull, Cond.instanceMethod yX3_seatOrNull, Cond.selects RX3 yX3_seatOrNull yX3_seatOrNull]
def zW1 : List Cond := [Cond.initialized RX3, Cond.methodLink RX3 39 yX4_heardByNeighbours, Cond.instanceMethod yX4_heardByNeighbours, Cond.selects RX4 yX4_heardByNeighbours yX4_heardByNeighbours, Cond.code yX4_tirednessNow cX4_tirednessNow 1 (some .int), Cond.fieldLink RX4 33 "ClaqueRow$Seat" "joins" "I", Cond.code yX4_soundAsPayer cX4_soundAsPayer 2 none, Cond.fieldLink RX4 15 "ClaqueRow$Seat" "threshold" "I", Cond.fieldLink RX4 29 "ClaqueRow$Seat" "joined" "Z", Cond.methodLink RX4 55 Lib.Math.min.name, Cond.static Lib.Math.min.name, Cond.initialized "java/lang/Math", Cond.code Lib.Math.min.name Lib.Math.min.code 2 (some .int), Cond.methodLink RX4 61 Lib.Math.max.name, Cond.static Lib.Math.max.name, Cond.code Lib.Math.max.name Lib.Math.max.code 2 (some .int), Cond.methodLink RX4 51 yX4_tirednessNow, Cond.instanceMethod yX4_tirednessNow, Cond.selects RX4 yX4_tirednessNow yX4_tirednessNow, Cond.code yJx4a65c_size_8abf5 cJx4a65c_size_8abf5 1 (some .int), Cond.code yJ3_checkIndex_8e157 cJ3_checkIndex_8e157 3 (some .int), Cond.code yJ15_checkIndex_7cf53 cJ15_checkIndex_7cf53 2 (some .int), Cond.methodLink RJ15 105 yJ3_checkIndex_8e157, Cond.static yJ3_checkIndex_8e157, Cond.initialized RJ3, Cond.code yJx4a65c_elementData_915e3 cJx4a65c_elementData_915e3 2 (some (.object "java/lang/Object")), Cond.code yJx4a65c_get_915e3 cJx4a65c_get_915e3 2 (some (.object "java/lang/Object")), Cond.methodLink RJx4a65c 118 yJ15_checkIndex_7cf53, Cond.static yJ15_checkIndex_7cf53, Cond.initialized RJ15, Cond.methodLink RJx4a65c 123 yJx4a65c_elementData_915e3, Cond.instanceMethod yJx4a65c_elementData_915e3, Cond.selects RJx4a65c yJx4a65c_elementData_915e3 yJx4a65c_elementData_915e3, Cond.code yX2_follows cX2_follows 2 (some .boolean), Cond.fieldLink RX2 19 "ClaqueRow$Hand" "kind" "C", Cond.fieldLink RX2 32 "ClaqueRow$Cue" "kind" "C", Cond.classLink RX1 114 "ClaqueRow$Cue", Cond.fieldLink RX1 126 "ClaqueRow$Cue" "force" "I", Cond.methodLink RX1 129 Lib.Math.max.name, Cond.fieldLink RX1 134 "ClaqueRow$Hand" "strength" "I", Cond.methodLink RX1 137 Lib.Math.min.name, Cond.methodLink RX1 103 yX1_handsAreFoundOut, Cond.instanceMethod yX1_handsAreFoundOut, Cond.selects RX1 yX1_handsAreFoundOut yX1_handsAreFoundOut, Cond.initialized RX1, Cond.methodLink RX1 107 yJx4a65c_size_8abf5, Cond.instanceMethod yJx4a65c_size_8abf5, Cond.selects RJx4a65c yJx4a65c_size_8abf5 yJx4a65c_size_8abf5, Cond.methodLink RX1 110 yJx4a65c_get_915e3, Cond.instanceMethod yJx4a65c_get_915e3, Cond.selects RJx4a65c yJx4a65c_get_915e3 yJx4a65c_get_915e3, Cond.methodLink RX1 116 yX0_isOnIn, Cond.instanceMethod yX0_isOnIn, Cond.selects RX0 yX0_isOnIn yX0_isOnIn, Cond.methodLink RX1 120 yX2_follows, Cond.instanceMethod yX2_follows, Cond.selects RX2 yX2_follows yX2_follows, Cond.initialized RX2, Cond.code yX1_noiseOf cX1_noiseOf 5 (some .int), Cond.fieldLink RX1 75 "ClaqueRow$Seat" "who" "C", Cond.fieldLink RX1 88 "ClaqueRow$Seat" "hissed" "Z", Cond.fieldLink RX1 92 "ClaqueRow$Seat" "hand" "LClaqueRow$Hand;", Cond.fieldLink RX1 100 "ClaqueRow$Seat" "noise" "I", Cond.methodLink RX1 71 yX3_seatOrNull, Cond.methodLink RX1 81 yX3_around, Cond.instanceMethod yX3_around, Cond.selects RX3 yX3_around yX3_around, Cond.methodLink RX1 85 yX4_soundAsPayer, Cond.instanceMethod yX4_soundAsPayer, Cond.selects RX4 yX4_soundAsPayer yX4_soundAsPayer]
def zW2 : List Cond := [Cond.methodLink RX1 96 yX1_noiseOf, Cond.instanceMethod yX1_noiseOf, Cond.selects RX1 yX1_noiseOf yX1_noiseOf, Cond.code yX1_soundSeat cX1_soundSeat 5 none, Cond.code yX3_noiseSum cX3_noiseSum 6 (some .int), Cond.fieldLink RX3 43 "ClaqueRow$Seat" "noise" "I", Cond.fieldLink RX1 151 "ClaqueRow$Cue" "tick" "I", Cond.code yX1_lastBegunCue cX1_lastBegunCue 4 (some (.object "ClaqueRow$Cue")), Cond.fieldLink RX1 144 "ClaqueRow$Cue" "singer" "LClaqueRow$Singer;", Cond.fieldLink RX1 148 "ClaqueRow$Singer" "calls" "I", Cond.methodLink RX1 140 yX1_lastBegunCue, Cond.instanceMethod yX1_lastBegunCue, Cond.selects RX1 yX1_lastBegunCue yX1_lastBegunCue, Cond.code yX1_hearNoise cX1_hearNoise 3 none, Cond.code yX3_countNoisy cX3_countNoisy 7 (some .int), Cond.fieldLink RX3 50 "ClaqueRow$Seat" "who" "C", Cond.methodLink RX1 154 yX0_lastTick, Cond.code yX1_judgeCues cX1_judgeCues 4 none, Cond.fieldLink RX1 45 "ClaqueRow$House" "rows" "I", Cond.fieldLink RX1 48 "ClaqueRow$House" "columns" "I", Cond.methodLink RX1 40 yX3_keepTickAhead, Cond.instanceMethod yX3_keepTickAhead, Cond.selects RX3 yX3_keepTickAhead yX3_keepTickAhead, Cond.methodLink RX1 51 yX1_soundSeat, Cond.instanceMethod yX1_soundSeat, Cond.selects RX1 yX1_soundSeat yX1_soundSeat, Cond.methodLink RX1 55 yX3_noiseSum, Cond.instanceMethod yX3_noiseSum, Cond.selects RX3 yX3_noiseSum yX3_noiseSum, Cond.methodLink RX1 59 yX1_hearNoise, Cond.instanceMethod yX1_hearNoise, Cond.selects RX1 yX1_hearNoise yX1_hearNoise, Cond.methodLink RX1 63 yX3_countNoisy, Cond.instanceMethod yX3_countNoisy, Cond.selects RX3 yX3_countNoisy yX3_countNoisy, Cond.methodLink RX1 67 yX1_judgeCues, Cond.instanceMethod yX1_judgeCues, Cond.selects RX1 yX1_judgeCues yX1_judgeCues, Cond.code yX1_passTick cX1_passTick 4 none, Cond.code yX1_hasBegunCueFor cX1_hasBegunCueFor 4 (some .boolean), Cond.code yX2_init cX2_init 5 none, Cond.methodLink RX2 3 objectInit, Cond.fieldLink RX2 9 "ClaqueRow$Hand" "money" "I", Cond.fieldLink RX2 15 "ClaqueRow$Hand" "seat" "LClaqueRow$Seat;", Cond.fieldLink RX2 23 "ClaqueRow$Hand" "strength" "I", Cond.fieldLink RX2 26 "ClaqueRow$Hand" "rank" "I", Cond.fieldLink RX2 29 "ClaqueRow$Hand" "price" "I", Cond.code yX2_parts cX2_parts 1 (some .int), Cond.code yX4_init cX4_init 1 none, Cond.methodLink RX4 3 objectInit, Cond.fieldLink RX4 9 "ClaqueRow$Seat" "who" "C", Cond.fieldLink RX4 19 "ClaqueRow$Seat" "hand" "LClaqueRow$Hand;", Cond.code yX3_init cX3_init 2 none, Cond.methodLink RX3 3 objectInit, Cond.classLink RX3 9 RX4, Cond.instantiable RX4 9, Cond.instanceMethod yX4_init, Cond.code yX4_forgetEvening cX4_forgetEvening 1 none, Cond.code yX4_take cX4_take 3 (some .char), Cond.fieldLink RX4 42 "ClaqueRow$Hand" "seat" "LClaqueRow$Seat;", Cond.methodLink RX4 48 yX4_forgetEvening, Cond.instanceMethod yX4_forgetEvening, Cond.selects RX4 yX4_forgetEvening yX4_forgetEvening, Cond.code yX3_build cX3_build 7 none, Cond.methodLink RX3 25 yX4_take, Cond.instanceMethod yX4_take, Cond.selects RX4 yX4_take yX4_take, Cond.code yX3_forgetEvening cX3_forgetEvening 5 none, Cond.methodLink RX3 29 yX4_forgetEvening, Cond.code yX3_countJoined cX3_countJoined 6 (some .int)]
def zW3 : List Cond := [Cond.fieldLink RX3 46 "ClaqueRow$Seat" "joined" "Z", Cond.code yX3_countSeated cX3_countSeated 7 (some .int), Cond.code yX4_isInOrder cX4_isInOrder 2 (some .boolean), Cond.code yX3_isInOrder cX3_isInOrder 5 (some .boolean), Cond.methodLink RX3 54 yX4_isInOrder, Cond.instanceMethod yX4_isInOrder, Cond.selects RX4 yX4_isInOrder yX4_isInOrder, Cond.code yX5_init cX5_init 3 none, Cond.methodLink RX5 1 objectInit, Cond.fieldLink RX5 7 "ClaqueRow$Singer" "calls" "I", Cond.fieldLink RX5 13 "ClaqueRow$Singer" "owed" "I", Cond.fieldLink RX5 16 "ClaqueRow$Singer" "night" "I", Cond.fieldLink RX5 19 "ClaqueRow$Singer" "perCall" "I", Cond.code yX6_init cX6_init 1 none, Cond.methodLink RX6 3 objectInit, Cond.classLink RX6 9 RJx4a65c, Cond.fieldLink RX6 12 "ClaqueRow$Troupe" "hands" "Ljava/util/ArrayList;", Cond.methodLink RX6 11 yJx4a65c_init_da8c8, Cond.code yX6_holds cX6_holds 2 (some .boolean), Cond.code yX6_cutShare cX6_cutShare 3 (some .int), Cond.classLink RX6 26 "ClaqueRow$Hand", Cond.fieldLink RX6 35 "ClaqueRow$Hand" "money" "I", Cond.methodLink RX6 18 yJx4a65c_size_8abf5, Cond.methodLink RX6 22 yJx4a65c_get_915e3, Cond.methodLink RX6 28 yX2_parts, Cond.instanceMethod yX2_parts, Cond.selects RX2 yX2_parts yX2_parts, Cond.methodLink RX6 31 yX6_cutShare, Cond.static yX6_cutShare, Cond.initialized RX6, Cond.code yX6_shareOut cX6_shareOut 7 (some .int), Cond.fieldLink RX6 53 "ClaqueRow$Hand" "strength" "I", Cond.methodLink RX6 47 yX6_holds, Cond.static yX6_holds, Cond.code yX6_strengthOf cX6_strengthOf 4 (some .int), Cond.fieldLink RX6 50 "ClaqueRow$Hand" "price" "I", Cond.code yX6_priceOf cX6_priceOf 4 (some .int), Cond.code yJ6_bitCount_0f7a4 cJ6_bitCount_0f7a4 1 (some .int), Cond.constant RJ6 265 (1431655765), Cond.constant RJ6 266 (858993459), Cond.constant RJ6 267 (252645135), Cond.methodLink RX6 56 yX6_priceOf, Cond.instanceMethod yX6_priceOf, Cond.selects RX6 yX6_priceOf yX6_priceOf, Cond.methodLink RX6 59 yJ6_bitCount_0f7a4, Cond.static yJ6_bitCount_0f7a4, Cond.initialized RJ6, Cond.code yX6_isBetter cX6_isBetter 8 (some .boolean), Cond.methodLink RX6 39 yX6_strengthOf, Cond.instanceMethod yX6_strengthOf, Cond.selects RX6 yX6_strengthOf yX6_strengthOf, Cond.methodLink RX6 43 yX6_isBetter, Cond.instanceMethod yX6_isBetter, Cond.selects RX6 yX6_isBetter yX6_isBetter, Cond.code yX6_cheapestPlan cX6_cheapestPlan 5 (some .int), Cond.fieldLink RX6 64 "ClaqueRow$Hand" "seat" "LClaqueRow$Seat;", Cond.fieldLink RX6 68 "ClaqueRow$Seat" "hand" "LClaqueRow$Hand;", Cond.code yX6_isInOrder cX6_isInOrder 3 (some .boolean), Cond.methodLink RX7 1 objectInit, Cond.classLink RX7 7 RX3, Cond.instantiable RX3 3, Cond.fieldLink RX7 10 "ClaqueRow" "house" "LClaqueRow$House;", Cond.classLink RX7 16 RX6, Cond.instantiable RX6 1, Cond.fieldLink RX7 19 "ClaqueRow" "troupe" "LClaqueRow$Troupe;", Cond.classLink RX7 23 RJx4a65c, Cond.fieldLink RX7 26 "ClaqueRow" "singers" "Ljava/util/ArrayList;", Cond.classLink RX7 30 RX1, Cond.instantiable RX1 7, Cond.fieldLink RX7 33 "ClaqueRow" "evening" "LClaqueRow$Evening;"]
def zW4 : List Cond := [Cond.fieldLink RX7 37 "ClaqueRow" "purse" "I", Cond.fieldLink RX7 41 "ClaqueRow" "chiefsMoney" "I", Cond.methodLink RX7 9 yX3_init, Cond.instanceMethod yX3_init, Cond.instanceMethod yX6_init, Cond.methodLink RX7 25 yJx4a65c_init_da8c8, Cond.instanceMethod yX1_init, Cond.code yX7_init cX7_init 1 none, Cond.code yX7_checkRange cX7_checkRange 3 none, Cond.classLink RX7 249 "java/lang/IllegalArgumentException", Cond.initialized "java/lang/IllegalArgumentException", Cond.classLink RX7 118 "ClaqueRow$Singer", Cond.fieldLink RX7 168 "ClaqueRow$Singer" "calls" "I", Cond.methodLink RX7 273 yX1_begin, Cond.instanceMethod yX1_begin, Cond.selects RX1 yX1_begin yX1_begin, Cond.methodLink RX7 100 yJx4a65c_size_8abf5, Cond.methodLink RX7 179 yJx4a65c_get_915e3, Cond.code yX7_beginEvening cX7_beginEvening 2 none, Cond.methodLink RX7 44 yX7_checkRange, Cond.static yX7_checkRange, Cond.initialized RX7, Cond.methodLink RX7 48 yX3_build, Cond.instanceMethod yX3_build, Cond.selects RX3 yX3_build yX3_build, Cond.methodLink RX7 52 yX7_beginEvening, Cond.instanceMethod yX7_beginEvening, Cond.selects RX7 yX7_beginEvening yX7_beginEvening, Cond.code yX7_newHouse cX7_newHouse 3 (some .int), Cond.code yX7_existingSeat cX7_existingSeat 4 (some (.object "ClaqueRow$Seat")), Cond.classLink RX7 256 "java/lang/IndexOutOfBoundsException", Cond.initialized "java/lang/IndexOutOfBoundsException", Cond.methodLink RX7 229 yX3_seatOrNull, Cond.fieldLink RX7 65 "ClaqueRow$Seat" "threshold" "I", Cond.methodLink RX7 55 yX7_existingSeat, Cond.instanceMethod yX7_existingSeat, Cond.selects RX7 yX7_existingSeat yX7_existingSeat, Cond.methodLink RX7 59 yX4_take, Cond.code yX7_seatPayer cX7_seatPayer 6 (some .char), Cond.code yX7_seatRival cX7_seatRival 3 (some .char), Cond.fieldLink RX7 97 "ClaqueRow$Troupe" "hands" "Ljava/util/ArrayList;", Cond.classLink RX7 73 "ClaqueRow$Hand", Cond.code yX7_existingHand cX7_existingHand 2 (some (.object "ClaqueRow$Hand")), Cond.classLink RX7 78 "java/lang/UnsupportedOperationException", Cond.initialized "java/lang/UnsupportedOperationException", Cond.fieldLink RX7 72 "ClaqueRow$Hand" "seat" "LClaqueRow$Seat;", Cond.fieldLink RX7 85 "ClaqueRow$Seat" "hand" "LClaqueRow$Hand;", Cond.methodLink RX7 68 yX7_existingHand, Cond.instanceMethod yX7_existingHand, Cond.selects RX7 yX7_existingHand yX7_existingHand, Cond.code yX7_seatHand cX7_seatHand 7 (some .char), Cond.code yX7_clearSeat cX7_clearSeat 3 (some .char), Cond.code yX7_seatAt cX7_seatAt 3 (some .char), Cond.fieldLink RX7 89 "ClaqueRow$Seat" "who" "C", Cond.code yX7_checkCueKind cX7_checkCueKind 1 none, Cond.code yJ8_hugeLength_7cf53 cJ8_hugeLength_7cf53 3 (some .int), Cond.constant RJ8 200 (2147483639), Cond.code yJ8_newLength_cabcc cJ8_newLength_cabcc 4 (some .int), Cond.methodLink RJ8 194 Lib.Math.max.name, Cond.methodLink RJ8 201 yJ8_hugeLength_7cf53, Cond.static yJ8_hugeLength_7cf53, Cond.initialized RJ8, Cond.code yJ7_copyOf_6403c cJ7_copyOf_6403c 4 (some (.array (.object "java/lang/Object"))), Cond.classLink RJ7 110 "[Ljava/lang/Object;", Cond.classLink RJ7 2 "java/lang/Object", Cond.methodLink RJ7 304 Lib.Math.min.name, Cond.methodLink RJ7 150 arraycopyName, Cond.native arraycopyName, Cond.static arraycopyName, Cond.initialized "java/lang/System"]
def zW5 : List Cond := [Cond.code yJ7_copyOf_1904c cJ7_copyOf_1904c 2 (some (.array (.object "java/lang/Object"))), Cond.methodLink RJ7 86 ⟨"java/lang/Object", "getClass", "()Ljava/lang/Class;"⟩, Cond.selects "[Ljava/lang/Object;" ⟨"java/lang/Object", "getClass", "()Ljava/lang/Class;"⟩ ⟨"java/lang/Object", "getClass", "()Ljava/lang/Class;"⟩, Cond.instanceMethod ⟨"java/lang/Object", "getClass", "()Ljava/lang/Class;"⟩, Cond.native ⟨"java/lang/Object", "getClass", "()Ljava/lang/Class;"⟩, Cond.methodLink RJ7 300 yJ7_copyOf_6403c, Cond.static yJ7_copyOf_6403c, Cond.initialized RJ7, Cond.methodLink RJx4a65c 79 Lib.Math.max.name, Cond.classLink RJx4a65c 7 "java/lang/Object", Cond.methodLink RJx4a65c 73 yJ8_newLength_cabcc, Cond.static yJ8_newLength_cabcc, Cond.methodLink RJx4a65c 66 yJ7_copyOf_1904c, Cond.static yJ7_copyOf_1904c, Cond.code yJx4a65c_grow_92f84 cJx4a65c_grow_92f84 4 (some (.array (.object "java/lang/Object"))), Cond.methodLink RJx4a65c 69 yJx4a65c_grow_92f84, Cond.instanceMethod yJx4a65c_grow_92f84, Cond.selects RJx4a65c yJx4a65c_grow_92f84 yJx4a65c_grow_92f84, Cond.code yJx4a65c_grow_d5877 cJx4a65c_grow_d5877 1 (some (.array (.object "java/lang/Object"))), Cond.methodLink RJx4a65c 129 yJx4a65c_grow_d5877, Cond.instanceMethod yJx4a65c_grow_d5877, Cond.selects RJx4a65c yJx4a65c_grow_d5877 yJx4a65c_grow_d5877, Cond.code yJx4a65c_add_72be8 cJx4a65c_add_72be8 4 none, Cond.methodLink RJx4a65c 131 yJx4a65c_add_72be8, Cond.instanceMethod yJx4a65c_add_72be8, Cond.selects RJx4a65c yJx4a65c_add_72be8 yJx4a65c_add_72be8, Cond.code yJx4a65c_add_9ea2d cJx4a65c_add_9ea2d 2 (some .boolean), Cond.classLink RX7 104 "java/lang/IllegalStateException", Cond.initialized "java/lang/IllegalStateException", Cond.classLink RX7 73 RX2, Cond.instantiable RX2 6, Cond.methodLink RX7 93 yX7_checkCueKind, Cond.static yX7_checkCueKind, Cond.methodLink RX7 109 yX2_init, Cond.instanceMethod yX2_init, Cond.methodLink RX7 112 yJx4a65c_add_9ea2d, Cond.instanceMethod yJx4a65c_add_9ea2d, Cond.selects RJx4a65c yJx4a65c_add_9ea2d yJx4a65c_add_9ea2d, Cond.code yX7_addHand cX7_addHand 5 (some .int), Cond.code yX7_isSeated cX7_isSeated 2 (some .boolean), Cond.classLink RX7 118 RX5, Cond.instantiable RX5 4, Cond.initialized RX5, Cond.methodLink RX7 120 yX5_init, Cond.instanceMethod yX5_init, Cond.code yX7_addSinger cX7_addSinger 3 (some .int), Cond.code yX7_existingSinger cX7_existingSinger 2 (some (.object "ClaqueRow$Singer")), Cond.fieldLink RX7 126 "ClaqueRow$Evening" "ticks" "I", Cond.fieldLink RX7 131 "ClaqueRow$Evening" "cues" "Ljava/util/ArrayList;", Cond.classLink RX7 136 RX0, Cond.instantiable RX0 5, Cond.methodLink RX7 122 yX7_existingSinger, Cond.instanceMethod yX7_existingSinger, Cond.selects RX7 yX7_existingSinger yX7_existingSinger, Cond.methodLink RX7 138 yX0_init, Cond.instanceMethod yX0_init, Cond.code yX7_addCue cX7_addCue 7 (some .int), Cond.code yX7_setLevel cX7_setLevel 3 (some .int), Cond.fieldLink RX7 141 "ClaqueRow$Evening" "level" "I", Cond.code yX7_checkHouse cX7_checkHouse 1 none, Cond.fieldLink RX7 223 "ClaqueRow$House" "rows" "I", Cond.methodLink RX7 144 yX7_checkHouse, Cond.instanceMethod yX7_checkHouse, Cond.selects RX7 yX7_checkHouse yX7_checkHouse, Cond.methodLink RX7 147 yX1_passTick, Cond.instanceMethod yX1_passTick, Cond.selects RX1 yX1_passTick yX1_passTick, Cond.code yX7_run cX7_run 3 (some .int), Cond.code yX7_noiseAt cX7_noiseAt 3 (some .int), Cond.fieldLink RX7 151 "ClaqueRow$Seat" "noise" "I"]
def zW6 : List Cond := [Cond.code yX7_noise cX7_noise 1 (some .int), Cond.methodLink RX7 154 yX3_noiseSum, Cond.code yX7_joining cX7_joining 1 (some .int), Cond.methodLink RX7 157 yX3_countJoined, Cond.instanceMethod yX3_countJoined, Cond.selects RX3 yX3_countJoined yX3_countJoined, Cond.code yX7_hisses cX7_hisses 1 (some .int), Cond.fieldLink RX7 160 "ClaqueRow$Evening" "hisses" "I", Cond.methodLink RX7 165 yX4_tirednessNow, Cond.code yX7_tiredness cX7_tiredness 4 (some .int), Cond.code yX7_callsOf cX7_callsOf 2 (some .int), Cond.code yX7_calls cX7_calls 1 (some .int), Cond.fieldLink RX7 171 "ClaqueRow$Evening" "calls" "I", Cond.code yX7_suspicions cX7_suspicions 1 (some .int), Cond.fieldLink RX7 172 "ClaqueRow$Evening" "suspicions" "I", Cond.code yX7_areFoundOut cX7_areFoundOut 1 (some .boolean), Cond.methodLink RX7 175 yX1_handsAreFoundOut, Cond.fieldLink RX7 280 "ClaqueRow$Singer" "night" "I", Cond.fieldLink RX7 283 "ClaqueRow$Singer" "perCall" "I", Cond.fieldLink RX7 191 "ClaqueRow$Singer" "owed" "I", Cond.methodLink RX7 276 yX1_hasBegunCueFor, Cond.instanceMethod yX1_hasBegunCueFor, Cond.selects RX1 yX1_hasBegunCueFor yX1_hasBegunCueFor, Cond.code yX7_billFor cX7_billFor 3 (some .int), Cond.methodLink RX7 183 yX7_billFor, Cond.instanceMethod yX7_billFor, Cond.selects RX7 yX7_billFor yX7_billFor, Cond.methodLink RX7 187 yX3_forgetEvening, Cond.instanceMethod yX3_forgetEvening, Cond.selects RX3 yX3_forgetEvening yX3_forgetEvening, Cond.code yX7_endEvening cX7_endEvening 3 (some .int), Cond.constant RX7 190 (99999), Cond.methodLink RX7 196 Lib.Math.min.name, Cond.code yX7_pay cX7_pay 5 (some .int), Cond.code yX7_owed cX7_owed 2 (some .int), Cond.code yX7_purse cX7_purse 1 (some .int), Cond.methodLink RX7 204 yX6_shareOut, Cond.instanceMethod yX6_shareOut, Cond.selects RX6 yX6_shareOut yX6_shareOut, Cond.code yX7_share cX7_share 2 (some .int), Cond.fieldLink RX7 208 "ClaqueRow$Hand" "money" "I", Cond.code yX7_moneyOf cX7_moneyOf 2 (some .int), Cond.code yX7_chiefs cX7_chiefs 1 (some .int), Cond.classLink RX7 268 "java/util/NoSuchElementException", Cond.initialized "java/util/NoSuchElementException", Cond.methodLink RX7 265 yX6_cheapestPlan, Cond.instanceMethod yX6_cheapestPlan, Cond.selects RX6 yX6_cheapestPlan yX6_cheapestPlan, Cond.code yX7_existingPlan cX7_existingPlan 3 (some .int), Cond.methodLink RX7 211 yX7_existingPlan, Cond.instanceMethod yX7_existingPlan, Cond.selects RX7 yX7_existingPlan yX7_existingPlan, Cond.methodLink RX7 214 yX6_priceOf, Cond.code yX7_planCost cX7_planCost 2 (some .int), Cond.methodLink RX7 217 yX6_holds, Cond.code yX7_isPlanned cX7_isPlanned 3 (some .boolean), Cond.constantLong RX7 221 (7), Cond.fieldLink RX7 226 "ClaqueRow$House" "columns" "I", Cond.constantLong RX7 232 (31), Cond.code yX7_checksum cX7_checksum 6 (some .long), Cond.code yX7_joiningShare cX7_joiningShare 2 (some .float), Cond.classLink RX7 238 "java/lang/ArithmeticException", Cond.initialized "java/lang/ArithmeticException", Cond.methodLink RX7 234 yX3_countSeated, Cond.instanceMethod yX3_countSeated, Cond.selects RX3 yX3_countSeated yX3_countSeated, Cond.code yX7_meanNoise cX7_meanNoise 2 (some .double), Cond.methodLink RX7 245 yX3_isInOrder, Cond.instanceMethod yX3_isInOrder, Cond.selects RX3 yX3_isInOrder yX3_isInOrder]
def zW7 : List Cond := [Cond.methodLink RX7 248 yX6_isInOrder, Cond.instanceMethod yX6_isInOrder, Cond.selects RX6 yX6_isInOrder yX6_isInOrder, Cond.code yX7_isSound cX7_isSound 1 (some .boolean), Cond.code yX8_rests cX8_rests 2 none, Cond.fieldLink RX8 20 "ClaqueRowModel" "noise" "[I", Cond.fieldLink RX8 23 "ClaqueRowModel" "joined" "[I", Cond.fieldLink RX8 29 "ClaqueRowModel" "joins" "[Z", Cond.fieldLink RX8 33 "ClaqueRowModel" "hissed" "[Z", Cond.code yX8_empties cX8_empties 2 none, Cond.fieldLink RX8 7 "ClaqueRowModel" "who" "[C", Cond.fieldLink RX8 13 "ClaqueRowModel" "threshold" "[I", Cond.fieldLink RX8 17 "ClaqueRowModel" "handIn" "[I", Cond.methodLink RX8 132 yX8_rests, Cond.instanceMethod yX8_rests, Cond.selects RX8 yX8_rests yX8_rests, Cond.initialized RX8, Cond.methodLink RX8 1 objectInit, Cond.arrayClass .char, Cond.arrayClass .int, Cond.fieldLink RX8 26 "ClaqueRowModel" "before" "[I", Cond.arrayClass .boolean, Cond.fieldLink RX8 36 "ClaqueRowModel" "hissedBefore" "[Z", Cond.fieldLink RX8 39 "ClaqueRowModel" "handKind" "[C", Cond.fieldLink RX8 42 "ClaqueRowModel" "cueKind" "[C", Cond.fieldLink RX8 45 "ClaqueRowModel" "strength" "[I", Cond.fieldLink RX8 48 "ClaqueRowModel" "rank" "[I", Cond.fieldLink RX8 51 "ClaqueRowModel" "price" "[I", Cond.fieldLink RX8 54 "ClaqueRowModel" "money" "[I", Cond.fieldLink RX8 57 "ClaqueRowModel" "night" "[I", Cond.fieldLink RX8 60 "ClaqueRowModel" "perCall" "[I", Cond.fieldLink RX8 63 "ClaqueRowModel" "owed" "[I", Cond.fieldLink RX8 66 "ClaqueRowModel" "callsOf" "[I", Cond.fieldLink RX8 69 "ClaqueRowModel" "cueSinger" "[I", Cond.fieldLink RX8 72 "ClaqueRowModel" "cueTick" "[I", Cond.fieldLink RX8 75 "ClaqueRowModel" "cueForce" "[I", Cond.fieldLink RX8 78 "ClaqueRowModel" "cueTicks" "[I", Cond.fieldLink RX8 81 "ClaqueRowModel" "rows" "I", Cond.fieldLink RX8 85 "ClaqueRowModel" "wide" "I", Cond.fieldLink RX8 88 "ClaqueRowModel" "hands" "I", Cond.fieldLink RX8 91 "ClaqueRowModel" "singers" "I", Cond.fieldLink RX8 94 "ClaqueRowModel" "cues" "I", Cond.fieldLink RX8 97 "ClaqueRowModel" "level" "I", Cond.fieldLink RX8 100 "ClaqueRowModel" "ticks" "I", Cond.fieldLink RX8 103 "ClaqueRowModel" "loud" "I", Cond.fieldLink RX8 106 "ClaqueRowModel" "calls" "I", Cond.fieldLink RX8 109 "ClaqueRowModel" "hisses" "I", Cond.fieldLink RX8 112 "ClaqueRowModel" "suspicions" "I", Cond.fieldLink RX8 115 "ClaqueRowModel" "purse" "I", Cond.fieldLink RX8 118 "ClaqueRowModel" "chiefs" "I", Cond.fieldLink RX8 121 "ClaqueRowModel" "thrown" "I", Cond.methodLink RX8 124 yX8_empties, Cond.instanceMethod yX8_empties, Cond.selects RX8 yX8_empties yX8_empties, Cond.code yX8_init cX8_init 2 none, Cond.code yX8_thrown cX8_thrown 1 (some .int), Cond.code yX8_in cX8_in 3 (some .boolean), Cond.code yX8_least cX8_least 2 (some .int), Cond.code yX8_most cX8_most 2 (some .int), Cond.code yX8_fails cX8_fails 2 (some .int), Cond.code yX8_failsAs cX8_failsAs 2 (some .char), Cond.code yX8_tells cX8_tells 2 (some .int), Cond.code yX8_tellsAs cX8_tellsAs 2 (some .char), Cond.code yX8_failsIf cX8_failsIf 2 (some .boolean), Cond.code yX8_isSeat cX8_isSeat 3 (some .boolean), Cond.methodLink RX8 128 yX8_in, Cond.static yX8_in, Cond.code yX8_isHand cX8_isHand 2 (some .boolean), Cond.code yX8_isSinger cX8_isSinger 2 (some .boolean), Cond.code yX8_begins cX8_begins 2 none]
def zW8 : List Cond := [Cond.methodLink RX8 135 yX8_fails, Cond.instanceMethod yX8_fails, Cond.selects RX8 yX8_fails yX8_fails, Cond.methodLink RX8 139 yX8_begins, Cond.instanceMethod yX8_begins, Cond.selects RX8 yX8_begins yX8_begins, Cond.methodLink RX8 142 yX8_tells, Cond.instanceMethod yX8_tells, Cond.selects RX8 yX8_tells yX8_tells, Cond.code yX8_newHouse cX8_newHouse 4 (some .int), Cond.methodLink RX8 145 yX8_isSeat, Cond.instanceMethod yX8_isSeat, Cond.selects RX8 yX8_isSeat yX8_isSeat, Cond.methodLink RX8 149 yX8_failsAs, Cond.instanceMethod yX8_failsAs, Cond.selects RX8 yX8_failsAs yX8_failsAs, Cond.methodLink RX8 153 yX8_tellsAs, Cond.instanceMethod yX8_tellsAs, Cond.selects RX8 yX8_tellsAs yX8_tellsAs, Cond.code yX8_seatPayer cX8_seatPayer 6 (some .char), Cond.code yX8_seatRival cX8_seatRival 4 (some .char), Cond.methodLink RX8 157 yX8_isHand, Cond.instanceMethod yX8_isHand, Cond.selects RX8 yX8_isHand yX8_isHand, Cond.code yX8_seatHand cX8_seatHand 6 (some .char), Cond.code yX8_clearSeat cX8_clearSeat 4 (some .char), Cond.code yX8_seatAt cX8_seatAt 3 (some .char), Cond.code yX8_isKind cX8_isKind 2 (some .boolean), Cond.code yX8_addHand cX8_addHand 5 (some .int), Cond.methodLink RX8 161 yX8_isKind, Cond.static yX8_isKind, Cond.code yX8_isSeated cX8_isSeated 4 (some .boolean), Cond.methodLink RX8 165 yX8_failsIf, Cond.instanceMethod yX8_failsIf, Cond.selects RX8 yX8_failsIf yX8_failsIf, Cond.code yX8_addSinger cX8_addSinger 3 (some .int), Cond.methodLink RX8 168 yX8_isSinger, Cond.instanceMethod yX8_isSinger, Cond.selects RX8 yX8_isSinger yX8_isSinger, Cond.code yX8_addCue cX8_addCue 6 (some .int), Cond.code yX8_setLevel cX8_setLevel 3 (some .int), Cond.code yX8_handNoise cX8_handNoise 5 (some .int), Cond.methodLink RX8 171 yX8_most, Cond.static yX8_most, Cond.methodLink RX8 175 yX8_least, Cond.static yX8_least, Cond.code yX8_around cX8_around 5 (some .int), Cond.methodLink RX8 178 yX8_handNoise, Cond.instanceMethod yX8_handNoise, Cond.selects RX8 yX8_handNoise yX8_handNoise, Cond.methodLink RX8 181 yX8_around, Cond.instanceMethod yX8_around, Cond.selects RX8 yX8_around yX8_around, Cond.code yX8_sits cX8_sits 3 none, Cond.code yX8_calling cX8_calling 3 none, Cond.code yX8_noisy cX8_noisy 4 (some .int), Cond.code yX8_summed cX8_summed 3 (some .int), Cond.methodLink RX8 184 yX8_sits, Cond.instanceMethod yX8_sits, Cond.selects RX8 yX8_sits yX8_sits, Cond.methodLink RX8 187 yX8_summed, Cond.instanceMethod yX8_summed, Cond.selects RX8 yX8_summed yX8_summed, Cond.methodLink RX8 191 yX8_calling, Cond.instanceMethod yX8_calling, Cond.selects RX8 yX8_calling yX8_calling, Cond.methodLink RX8 194 yX8_noisy, Cond.instanceMethod yX8_noisy, Cond.selects RX8 yX8_noisy yX8_noisy, Cond.code yX8_goes cX8_goes 3 none]
def zW9 : List Cond := [Cond.methodLink RX8 198 yX8_goes, Cond.instanceMethod yX8_goes, Cond.selects RX8 yX8_goes yX8_goes, Cond.code yX8_run cX8_run 3 (some .int), Cond.code yX8_noiseAt cX8_noiseAt 3 (some .int), Cond.code yX8_noise cX8_noise 1 (some .int), Cond.code yX8_joiners cX8_joiners 3 (some .int), Cond.code yX8_joining cX8_joining 1 (some .int), Cond.methodLink RX8 201 yX8_joiners, Cond.instanceMethod yX8_joiners, Cond.selects RX8 yX8_joiners yX8_joiners, Cond.code yX8_hisses cX8_hisses 1 (some .int), Cond.code yX8_tiredness cX8_tiredness 3 (some .int), Cond.code yX8_callsOf cX8_callsOf 2 (some .int), Cond.code yX8_calls cX8_calls 1 (some .int), Cond.code yX8_suspicions cX8_suspicions 1 (some .int), Cond.code yX8_areFoundOut cX8_areFoundOut 1 (some .boolean), Cond.code yX8_endEvening cX8_endEvening 5 (some .int), Cond.code yX8_pay cX8_pay 4 (some .int), Cond.constant RX8 204 (99999), Cond.code yX8_owed cX8_owed 2 (some .int), Cond.code yX8_purse cX8_purse 1 (some .int), Cond.code yX8_share cX8_share 5 (some .int), Cond.code yX8_moneyOf cX8_moneyOf 2 (some .int), Cond.code yX8_chiefs cX8_chiefs 1 (some .int), Cond.code yX8_summed_ cX8_summed_ 5 (some .int), Cond.code yX8_isBetter cX8_isBetter 4 (some .boolean), Cond.methodLink RX8 205 yX8_summed_, Cond.instanceMethod yX8_summed_, Cond.selects RX8 yX8_summed_ yX8_summed_, Cond.code yX8_planned cX8_planned 4 (some .int), Cond.methodLink RX8 207 yX8_isBetter, Cond.instanceMethod yX8_isBetter, Cond.selects RX8 yX8_isBetter yX8_isBetter, Cond.methodLink RX8 210 yX8_planned, Cond.instanceMethod yX8_planned, Cond.selects RX8 yX8_planned yX8_planned, Cond.code yX8_planCost cX8_planCost 3 (some .int), Cond.code yX8_isPlanned cX8_isPlanned 4 (some .boolean), Cond.code yX8_checksum cX8_checksum 5 (some .long), Cond.constantLong RX8 213 (7), Cond.constantLong RX8 215 (31), Cond.code yX8_payers cX8_payers 3 (some .int), Cond.code yX8_joiningShare cX8_joiningShare 1 (some .float), Cond.methodLink RX8 217 yX8_payers, Cond.instanceMethod yX8_payers, Cond.selects RX8 yX8_payers yX8_payers, Cond.code yX8_meanNoise cX8_meanNoise 1 (some .double), Cond.code yX8_isSound cX8_isSound 1 (some .boolean), Cond.code yJx00060_init_a7421 cJx00060_init_a7421 2 none, Cond.code yJ9_max_7cf53 cJ9_max_7cf53 2 (some .int), Cond.code yJ9_min_7cf53 cJ9_min_7cf53 2 (some .int), Cond.classLink RL 13 "java/lang/IllegalArgumentException", Cond.methodLink RL 7 yX7_newHouse, Cond.instanceMethod yX7_newHouse, Cond.selects RX7 yX7_newHouse yX7_newHouse, Cond.codeWith yL_newHouse cL_newHouse 5 (some .int) [(0, 10, 13, 13)], Cond.classLink RL 19 "java/lang/IndexOutOfBoundsException", Cond.methodLink RL 15 yX7_seatPayer, Cond.instanceMethod yX7_seatPayer, Cond.selects RX7 yX7_seatPayer yX7_seatPayer, Cond.codeWith yL_seatPayer cL_seatPayer 6 (some .int) [(0, 12, 15, 19), (0, 12, 19, 13)], Cond.methodLink RL 21 yX7_seatRival, Cond.instanceMethod yX7_seatRival, Cond.selects RX7 yX7_seatRival yX7_seatRival, Cond.codeWith yL_seatRival cL_seatRival 5 (some .int) [(0, 10, 13, 19)], Cond.classLink RL 28 "java/lang/UnsupportedOperationException", Cond.methodLink RL 25 yX7_seatHand, Cond.instanceMethod yX7_seatHand, Cond.selects RX7 yX7_seatHand yX7_seatHand]
def zW10 : List Cond := [Cond.codeWith yL_seatHand cL_seatHand 6 (some .int) [(0, 12, 15, 19), (0, 12, 19, 28)], Cond.methodLink RL 30 yX7_clearSeat, Cond.instanceMethod yX7_clearSeat, Cond.selects RX7 yX7_clearSeat yX7_clearSeat, Cond.codeWith yL_clearSeat cL_clearSeat 5 (some .int) [(0, 10, 13, 19)], Cond.codeWith yL_seatAt cL_seatAt 5 (some .int) [(0, 10, 13, 19)], Cond.methodLink RL 33 yX7_seatAt, Cond.instanceMethod yX7_seatAt, Cond.selects RX7 yX7_seatAt yX7_seatAt, Cond.classLink RL 40 "java/lang/IllegalStateException", Cond.methodLink RL 36 yX7_addHand, Cond.instanceMethod yX7_addHand, Cond.selects RX7 yX7_addHand yX7_addHand, Cond.codeWith yL_addHand cL_addHand 7 (some .int) [(0, 14, 17, 13), (0, 14, 21, 40)], Cond.methodLink RL 42 yX7_isSeated, Cond.instanceMethod yX7_isSeated, Cond.selects RX7 yX7_isSeated yX7_isSeated, Cond.codeWith yL_isSeated cL_isSeated 4 (some .int) [(0, 16, 19, 19)], Cond.methodLink RL 46 yX7_addSinger, Cond.instanceMethod yX7_addSinger, Cond.selects RX7 yX7_addSinger yX7_addSinger, Cond.codeWith yL_addSinger cL_addSinger 5 (some .int) [(0, 10, 13, 13), (0, 10, 17, 40)], Cond.methodLink RL 49 yX7_addCue, Cond.instanceMethod yX7_addCue, Cond.selects RX7 yX7_addCue yX7_addCue, Cond.codeWith yL_addCue cL_addCue 8 (some .int) [(0, 16, 19, 19), (0, 16, 23, 13), (0, 16, 27, 28), (0, 16, 31, 40)], Cond.codeWith yL_setLevel cL_setLevel 4 (some .int) [(0, 9, 12, 13)], Cond.methodLink RL 53 yX7_setLevel, Cond.instanceMethod yX7_setLevel, Cond.selects RX7 yX7_setLevel yX7_setLevel, Cond.methodLink RL 57 yX7_run, Cond.instanceMethod yX7_run, Cond.selects RX7 yX7_run yX7_run, Cond.codeWith yL_run cL_run 4 (some .int) [(0, 9, 12, 13), (0, 9, 15, 40)], Cond.codeWith yL_noiseAt cL_noiseAt 5 (some .int) [(0, 10, 13, 19)], Cond.methodLink RL 60 yX7_noiseAt, Cond.instanceMethod yX7_noiseAt, Cond.selects RX7 yX7_noiseAt yX7_noiseAt, Cond.methodLink RL 63 yX7_tiredness, Cond.instanceMethod yX7_tiredness, Cond.selects RX7 yX7_tiredness yX7_tiredness, Cond.codeWith yL_tiredness cL_tiredness 5 (some .int) [(0, 10, 13, 19), (0, 10, 17, 28)], Cond.methodLink RL 66 yX7_callsOf, Cond.instanceMethod yX7_callsOf, Cond.selects RX7 yX7_callsOf yX7_callsOf, Cond.codeWith yL_callsOf cL_callsOf 4 (some .int) [(0, 9, 12, 19)], Cond.methodLink RL 69 yX7_endEvening, Cond.instanceMethod yX7_endEvening, Cond.selects RX7 yX7_endEvening yX7_endEvening, Cond.codeWith yL_endEvening cL_endEvening 3 (some .int) [(0, 8, 11, 40)], Cond.methodLink RL 73 yX7_pay, Cond.instanceMethod yX7_pay, Cond.selects RX7 yX7_pay yX7_pay, Cond.codeWith yL_pay cL_pay 5 (some .int) [(0, 10, 13, 19), (0, 10, 17, 13), (0, 10, 21, 28)], Cond.methodLink RL 76 yX7_owed, Cond.instanceMethod yX7_owed, Cond.selects RX7 yX7_owed yX7_owed, Cond.codeWith yL_owed cL_owed 4 (some .int) [(0, 9, 12, 19)], Cond.methodLink RL 79 yX7_share, Cond.instanceMethod yX7_share, Cond.selects RX7 yX7_share yX7_share, Cond.codeWith yL_share cL_share 3 (some .int) [(0, 8, 11, 28)], Cond.methodLink RL 82 yX7_moneyOf, Cond.instanceMethod yX7_moneyOf, Cond.selects RX7 yX7_moneyOf yX7_moneyOf, Cond.codeWith yL_moneyOf cL_moneyOf 4 (some .int) [(0, 9, 12, 19)], Cond.classLink RL 88 "java/util/NoSuchElementException", Cond.methodLink RL 85 yX7_planCost, Cond.instanceMethod yX7_planCost, Cond.selects RX7 yX7_planCost yX7_planCost]
def zW11 : List Cond := [Cond.codeWith yL_planCost cL_planCost 4 (some .int) [(0, 9, 12, 13), (0, 9, 15, 88)], Cond.methodLink RL 90 yX7_isPlanned, Cond.instanceMethod yX7_isPlanned, Cond.selects RX7 yX7_isPlanned yX7_isPlanned, Cond.codeWith yL_isPlanned cL_isPlanned 5 (some .int) [(0, 17, 20, 13), (0, 17, 24, 19), (0, 17, 28, 88)], Cond.codeWith yL_joiningShare cL_joiningShare 3 (some .int) [(0, 8, 11, 98)], Cond.classLink RL 98 "java/lang/ArithmeticException", Cond.methodLink RL 94 yX7_joiningShare, Cond.instanceMethod yX7_joiningShare, Cond.selects RX7 yX7_joiningShare yX7_joiningShare, Cond.codeWith yL_meanNoise cL_meanNoise 3 (some .int) [(0, 7, 10, 98)], Cond.methodLink RL 100 yX7_meanNoise, Cond.instanceMethod yX7_meanNoise, Cond.selects RX7 yX7_meanNoise yX7_meanNoise, Cond.classLink RL 8 RX7, Cond.instantiable RX7 6, Cond.classLink RL 105 RX8, Cond.instantiable RX8 37, Cond.arrayClass .long, Cond.arrayClass .double, Cond.methodLink RL 104 yX7_init, Cond.instanceMethod yX7_init, Cond.methodLink RL 107 yX8_init, Cond.instanceMethod yX8_init, Cond.methodLink RL 108 yL_newHouse, Cond.static yL_newHouse, Cond.initialized RL, Cond.methodLink RL 113 yX8_newHouse, Cond.instanceMethod yX8_newHouse, Cond.selects RX8 yX8_newHouse yX8_newHouse, Cond.methodLink RL 114 yX8_thrown, Cond.instanceMethod yX8_thrown, Cond.selects RX8 yX8_thrown yX8_thrown, Cond.methodLink RL 117 yL_seatPayer, Cond.static yL_seatPayer, Cond.methodLink RL 120 yX8_seatPayer, Cond.instanceMethod yX8_seatPayer, Cond.selects RX8 yX8_seatPayer yX8_seatPayer, Cond.methodLink RL 121 yL_seatRival, Cond.static yL_seatRival, Cond.methodLink RL 123 yX8_seatRival, Cond.instanceMethod yX8_seatRival, Cond.selects RX8 yX8_seatRival yX8_seatRival, Cond.methodLink RL 124 yL_seatHand, Cond.static yL_seatHand, Cond.methodLink RL 126 yX8_seatHand, Cond.instanceMethod yX8_seatHand, Cond.selects RX8 yX8_seatHand yX8_seatHand, Cond.methodLink RL 127 yL_clearSeat, Cond.static yL_clearSeat, Cond.methodLink RL 129 yX8_clearSeat, Cond.instanceMethod yX8_clearSeat, Cond.selects RX8 yX8_clearSeat yX8_clearSeat, Cond.methodLink RL 130 yL_seatAt, Cond.static yL_seatAt, Cond.methodLink RL 132 yX8_seatAt, Cond.instanceMethod yX8_seatAt, Cond.selects RX8 yX8_seatAt yX8_seatAt, Cond.methodLink RL 133 yL_addHand, Cond.static yL_addHand, Cond.methodLink RL 136 yX8_addHand, Cond.instanceMethod yX8_addHand, Cond.selects RX8 yX8_addHand yX8_addHand, Cond.methodLink RL 137 yL_isSeated, Cond.static yL_isSeated, Cond.methodLink RL 140 yX8_isSeated, Cond.instanceMethod yX8_isSeated, Cond.selects RX8 yX8_isSeated yX8_isSeated, Cond.methodLink RL 141 yL_addSinger, Cond.static yL_addSinger]
def zW12 : List Cond := [Cond.methodLink RL 143 yX8_addSinger, Cond.instanceMethod yX8_addSinger, Cond.selects RX8 yX8_addSinger yX8_addSinger, Cond.methodLink RL 144 yL_addCue, Cond.static yL_addCue, Cond.methodLink RL 147 yX8_addCue, Cond.instanceMethod yX8_addCue, Cond.selects RX8 yX8_addCue yX8_addCue, Cond.methodLink RL 148 yL_setLevel, Cond.static yL_setLevel, Cond.methodLink RL 150 yX8_setLevel, Cond.instanceMethod yX8_setLevel, Cond.selects RX8 yX8_setLevel yX8_setLevel, Cond.methodLink RL 151 yL_run, Cond.static yL_run, Cond.methodLink RL 153 yX8_run, Cond.instanceMethod yX8_run, Cond.selects RX8 yX8_run yX8_run, Cond.methodLink RL 154 yL_noiseAt, Cond.static yL_noiseAt, Cond.methodLink RL 156 yX8_noiseAt, Cond.instanceMethod yX8_noiseAt, Cond.selects RX8 yX8_noiseAt yX8_noiseAt, Cond.methodLink RL 157 yX7_noise, Cond.instanceMethod yX7_noise, Cond.selects RX7 yX7_noise yX7_noise, Cond.methodLink RL 160 yX8_noise, Cond.instanceMethod yX8_noise, Cond.selects RX8 yX8_noise yX8_noise, Cond.methodLink RL 161 yX7_joining, Cond.instanceMethod yX7_joining, Cond.selects RX7 yX7_joining yX7_joining, Cond.methodLink RL 164 yX8_joining, Cond.instanceMethod yX8_joining, Cond.selects RX8 yX8_joining yX8_joining, Cond.methodLink RL 165 yX7_hisses, Cond.instanceMethod yX7_hisses, Cond.selects RX7 yX7_hisses yX7_hisses, Cond.methodLink RL 168 yX8_hisses, Cond.instanceMethod yX8_hisses, Cond.selects RX8 yX8_hisses yX8_hisses, Cond.methodLink RL 169 yL_tiredness, Cond.static yL_tiredness, Cond.methodLink RL 171 yX8_tiredness, Cond.instanceMethod yX8_tiredness, Cond.selects RX8 yX8_tiredness yX8_tiredness, Cond.methodLink RL 172 yL_callsOf, Cond.static yL_callsOf, Cond.methodLink RL 174 yX8_callsOf, Cond.instanceMethod yX8_callsOf, Cond.selects RX8 yX8_callsOf yX8_callsOf, Cond.methodLink RL 175 yX7_calls, Cond.instanceMethod yX7_calls, Cond.selects RX7 yX7_calls yX7_calls, Cond.methodLink RL 178 yX8_calls, Cond.instanceMethod yX8_calls, Cond.selects RX8 yX8_calls yX8_calls, Cond.methodLink RL 179 yX7_suspicions, Cond.instanceMethod yX7_suspicions, Cond.selects RX7 yX7_suspicions yX7_suspicions, Cond.methodLink RL 182 yX8_suspicions, Cond.instanceMethod yX8_suspicions, Cond.selects RX8 yX8_suspicions yX8_suspicions, Cond.methodLink RL 183 yX7_areFoundOut, Cond.instanceMethod yX7_areFoundOut, Cond.selects RX7 yX7_areFoundOut yX7_areFoundOut, Cond.methodLink RL 187 yX8_areFoundOut, Cond.instanceMethod yX8_areFoundOut, Cond.selects RX8 yX8_areFoundOut yX8_areFoundOut, Cond.methodLink RL 188 yL_endEvening]
def zW13 : List Cond := [Cond.static yL_endEvening, Cond.methodLink RL 191 yX8_endEvening, Cond.instanceMethod yX8_endEvening, Cond.selects RX8 yX8_endEvening yX8_endEvening, Cond.methodLink RL 192 yL_pay, Cond.static yL_pay, Cond.methodLink RL 194 yX8_pay, Cond.instanceMethod yX8_pay, Cond.selects RX8 yX8_pay yX8_pay, Cond.methodLink RL 195 yL_owed, Cond.static yL_owed, Cond.methodLink RL 197 yX8_owed, Cond.instanceMethod yX8_owed, Cond.selects RX8 yX8_owed yX8_owed, Cond.methodLink RL 198 yX7_purse, Cond.instanceMethod yX7_purse, Cond.selects RX7 yX7_purse yX7_purse, Cond.methodLink RL 201 yX8_purse, Cond.instanceMethod yX8_purse, Cond.selects RX8 yX8_purse yX8_purse, Cond.methodLink RL 202 yL_share, Cond.static yL_share, Cond.methodLink RL 204 yX8_share, Cond.instanceMethod yX8_share, Cond.selects RX8 yX8_share yX8_share, Cond.methodLink RL 205 yL_moneyOf, Cond.static yL_moneyOf, Cond.methodLink RL 207 yX8_moneyOf, Cond.instanceMethod yX8_moneyOf, Cond.selects RX8 yX8_moneyOf yX8_moneyOf, Cond.methodLink RL 208 yX7_chiefs, Cond.instanceMethod yX7_chiefs, Cond.selects RX7 yX7_chiefs yX7_chiefs, Cond.methodLink RL 211 yX8_chiefs, Cond.instanceMethod yX8_chiefs, Cond.selects RX8 yX8_chiefs yX8_chiefs, Cond.methodLink RL 212 yL_planCost, Cond.static yL_planCost, Cond.methodLink RL 214 yX8_planCost, Cond.instanceMethod yX8_planCost, Cond.selects RX8 yX8_planCost yX8_planCost, Cond.methodLink RL 215 yL_isPlanned, Cond.static yL_isPlanned, Cond.methodLink RL 217 yX8_isPlanned, Cond.instanceMethod yX8_isPlanned, Cond.selects RX8 yX8_isPlanned yX8_isPlanned, Cond.methodLink RL 218 yX7_checksum, Cond.instanceMethod yX7_checksum, Cond.selects RX7 yX7_checksum yX7_checksum, Cond.methodLink RL 222 yX8_checksum, Cond.instanceMethod yX8_checksum, Cond.selects RX8 yX8_checksum yX8_checksum, Cond.methodLink RL 223 yL_joiningShare, Cond.static yL_joiningShare, Cond.methodLink RL 226 yX8_joiningShare, Cond.instanceMethod yX8_joiningShare, Cond.selects RX8 yX8_joiningShare yX8_joiningShare, Cond.methodLink RL 227 yL_meanNoise, Cond.static yL_meanNoise, Cond.methodLink RL 229 yX8_meanNoise, Cond.instanceMethod yX8_meanNoise, Cond.selects RX8 yX8_meanNoise yX8_meanNoise, Cond.methodLink RL 230 yX7_isSound, Cond.instanceMethod yX7_isSound, Cond.selects RX7 yX7_isSound yX7_isSound, Cond.methodLink RL 233 yX8_isSound, Cond.instanceMethod yX8_isSound, Cond.selects RX8 yX8_isSound yX8_isSound]
def zAll : List Cond := zW0 ++ (zW1 ++ (zW2 ++ (zW3 ++ (zW4 ++ (zW5 ++ (zW6 ++ (zW7 ++ (zW8 ++ (zW9 ++ (zW10 ++ (zW11 ++ (zW12 ++ (zW13 ++ (wsX00 ++ (wsX10 ++ (wsX20 ++ (wsX30 ++ (wsX40 ++ (wsX50 ++ (wsX60 ++ (wsX70 ++ (wsX80 ++ (wsJx000600 ++ (wsJ00 ++ (wsJx4a65c0 ++ (((vx_atS RX7 253 "java/lang/IllegalArgumentException" ["java/lang/RuntimeException", "java/lang/Exception"]).filter goodWord) ++ (((vx_atS RX7 260 "java/lang/IndexOutOfBoundsException" ["java/lang/RuntimeException", "java/lang/Exception"]).filter goodWord) ++ (((vx_atS RX7 82 "java/lang/UnsupportedOperationException" ["java/lang/RuntimeException", "java/lang/Exception"]).filter goodWord) ++ (((vx_atS RX7 108 "java/lang/IllegalStateException" ["java/lang/RuntimeException", "java/lang/Exception"]).filter goodWord) ++ (((vx_atS RX7 272 "java/util/NoSuchElementException" ["java/lang/RuntimeException", "java/lang/Exception"]).filter goodWord) ++ (((vx_atS RX7 242 "java/lang/ArithmeticException" ["java/lang/RuntimeException", "java/lang/Exception"]).filter goodWord))))))))))))))))))))))))))))))))
theorem zin0 {w : Cond} (h : w ∈ zW0) : w ∈ zAll := List.mem_append_left _ h
theorem zin1 {w : Cond} (h : w ∈ zW1) : w ∈ zAll := List.mem_append_right _ (List.mem_append_left _ h)
theorem zin2 {w : Cond} (h : w ∈ zW2) : w ∈ zAll := List.mem_append_right _ (List.mem_append_right _ (List.mem_append_left _ h))
theorem zin3 {w : Cond} (h : w ∈ zW3) : w ∈ zAll := List.mem_append_right _ (List.mem_append_right _ (List.mem_append_right _ (List.mem_append_left _ h)))
theorem zin4 {w : Cond} (h : w ∈ zW4) : w ∈ zAll := List.mem_append_right _ (List.mem_append_right _ (List.mem_append_right _ (List.mem_append_right _ (List.mem_append_left _ h))))
theorem zin5 {w : Cond} (h : w ∈ zW5) : w ∈ zAll := List.mem_append_right _ (List.mem_append_right _ (List.mem_append_right _ (List.mem_append_right _ (List.mem_append_right _ (List.mem_append_left _ h)))))
theorem zin6 {w : Cond} (h : w ∈ zW6) : w ∈ zAll := List.mem_append_right _ (List.mem_append_right _ (List.mem_append_right _ (List.mem_append_right _ (List.mem_append_right _ (List.mem_append_right _ (List.mem_append_left _ h))))))
theorem zin7 {w : Cond} (h : w ∈ zW7) : w ∈ zAll := List.mem_append_right _ (List.mem_append_right _ (List.mem_append_right _ (List.mem_append_right _ (List.mem_append_right _ (List.mem_append_right _ (List.mem_append_right _ (List.mem_append_left _ h)))))))
theorem zin8 {w : Cond} (h : w ∈ zW8) : w ∈ zAll := List.mem_append_right _ (List.mem_append_right _ (List.mem_append_right _ (List.mem_append_right _ (List.mem_append_right _ (List.mem_append_right _ (List.mem_append_right _ (List.mem_append_right _ (List.mem_append_left _ h))))))))
theorem zin9 {w : Cond} (h : w ∈ zW9) : w ∈ zAll := List.mem_append_right _ (List.mem_append_right _ (List.mem_append_right _ (List.mem_append_right _ (List.mem_append_right _ (List.mem_append_right _ (List.mem_append_right _ (List.mem_append_right _ (List.mem_append_right _ (List.mem_append_left _ h)))))))))
theorem zin10 {w : Cond} (h : w ∈ zW10) : w ∈ zAll := List.mem_append_right _ (List.mem_append_right _ (List.mem_append_right _ (List.mem_append_right _ (List.mem_append_right _ (List.mem_append_right _ (List.mem_append_right _ (List.mem_append_right _ (List.mem_append_right _ (List.mem_append_right _ (List.mem_append_left _ h))))))))))
theorem zin11 {w : Cond} (h : w ∈ zW11) : w ∈ zAll := List.mem_append_right _ (List.mem_append_right _ (List.mem_append_right _ (List.mem_append_right _ (List.mem_append_right _ (List.mem_append_right _ (List.mem_append_right _ (List.mem_append_right _ (List.mem_append_right _ (List.mem_append_right _ (List.mem_append_right _ (List.mem_append_left _ h)))))))))))
theorem zin12 {w : Cond} (h : w ∈ zW12) : w ∈ zAll := List.mem_append_right _ (List.mem_append_right _ (List.mem_append_right _ (List.mem_append_right _ (List.mem_append_right _ (List.mem_append_right _ (List.mem_append_right _ (List.mem_append_right _ (List.mem_append_right _ (List.mem_append_right _ (List.mem_append_right _ (List.mem_append_right _ (List.mem_append_left _ h))))))))))))
theorem zin13 {w : Cond} (h : w ∈ zW13) : w ∈ zAll := List.mem_append_right _ (List.mem_append_right _ (List.mem_append_right _ (List.mem_append_right _ (List.mem_append_right _ (List.mem_append_right _ (List.mem_append_right _ (List.mem_append_right _ (List.mem_append_right _ (List.mem_append_right _ (List.mem_append_right _ (List.mem_append_right _ (List.mem_append_right _ (List.mem_append_left _ h)))))))))))))
theorem zin14 {w : Cond} (h : w ∈ wsX00) : w ∈ zAll := List.mem_append_right _ (List.mem_append_right _ (List.mem_append_right _ (List.mem_append_right _ (List.mem_append_right _ (List.mem_append_right _ (List.mem_append_right _ (List.mem_append_right _ (List.mem_append_right _ (List.mem_append_right _ (List.mem_append_right _ (List.mem_append_right _ (List.mem_append_right _ (List.mem_append_right _ (List.mem_append_left _ h))))))))))))))
theorem zin15 {w : Cond} (h : w ∈ wsX10) : w ∈ zAll := List.mem_append_right _ (List.mem_append_right _ (List.mem_append_right _ (List.mem_append_right _ (List.mem_append_right _ (List.mem_append_right _ (List.mem_append_right _ (List.mem_append_right _ (List.mem_append_right _ (List.mem_append_right _ (List.mem_append_right _ (List.mem_append_right _ (List.mem_append_right _ (List.mem_append_right _ (List.mem_append_right _ (List.mem_append_left _ h)))))))))))))))
theorem zin16 {w : Cond} (h : w ∈ wsX20) : w ∈ zAll := List.mem_append_right _ (List.mem_append_right _ (List.mem_append_right _ (List.mem_append_right _ (List.mem_append_right _ (List.mem_append_right _ (List.mem_append_right _ (List.mem_append_right _ (List.mem_append_right _ (List.mem_append_right _ (List.mem_append_right _ (List.mem_append_right _ (List.mem_append_right _ (List.mem_append_right _ (List.mem_append_right _ (List.mem_append_right _ (List.mem_append_left _ h))))))))))))))))
theorem zin17 {w : Cond} (h : w ∈ wsX30) : w ∈ zAll := List.mem_append_right _ (List.mem_append_right _ (List.mem_append_right _ (List.mem_append_right _ (List.mem_append_right _ (List.mem_append_right _ (List.mem_append_right _ (List.mem_append_right _ (List.mem_append_right _ (List.mem_append_right _ (List.mem_append_right _ (List.mem_append_right _ (List.mem_append_right _ (List.mem_append_right _ (List.mem_append_right _ (List.mem_append_right _ (List.mem_append_right _ (List.mem_append_left _ h)))))))))))))))))
theorem zin18 {w : Cond} (h : w ∈ wsX40) : w ∈ zAll := List.mem_append_right _ (List.mem_append_right _ (List.mem_append_right _ (List.mem_append_right _ (List.mem_append_right _ (List.mem_append_right _ (List.mem_append_right _ (List.mem_append_right _ (List.mem_append_right _ (List.mem_append_right _ (List.mem_append_right _ (List.mem_append_right _ (List.mem_append_right _ (List.mem_append_right _ (List.mem_append_right _ (List.mem_append_right _ (List.mem_append_right _ (List.mem_append_right _ (List.mem_append_left _ h))))))))))))))))))
theorem zin19 {w : Cond} (h : w ∈ wsX50) : w ∈ zAll := List.mem_append_right _ (List.mem_append_right _ (List.mem_append_right _ (List.mem_append_right _ (List.mem_append_right _ (List.mem_append_right _ (List.mem_append_right _ (List.mem_append_right _ (List.mem_append_right _ (List.mem_append_right _ (List.mem_append_right _ (List.mem_append_right _ (List.mem_append_right _ (List.mem_append_right _ (List.mem_append_right _ (List.mem_append_right _ (List.mem_append_right _ (List.mem_append_right _ (List.mem_append_right _ (List.mem_append_left _ h)))))))))))))))))))
theorem zin20 {w : Cond} (h : w ∈ wsX60) : w ∈ zAll := List.mem_append_right _ (List.mem_append_right _ (List.mem_append_right _ (List.mem_append_right _ (List.mem_append_right _ (List.mem_append_right _ (List.mem_append_right _ (List.mem_append_right _ (List.mem_append_right _ (List.mem_append_right _ (List.mem_append_right _ (List.mem_append_right _ (List.mem_append_right _ (List.mem_append_right _ (List.mem_append_right _ (List.mem_append_right _ (List.mem_append_right _ (List.mem_append_right _ (List.mem_append_right _ (List.mem_append_right _ (List.mem_append_left _ h))))))))))))))))))))
theorem zin21 {w : Cond} (h : w ∈ wsX70) : w ∈ zAll := List.mem_append_right _ (List.mem_append_right _ (List.mem_append_right _ (List.mem_append_right _ (List.mem_append_right _ (List.mem_append_right _ (List.mem_append_right _ (List.mem_append_right _ (List.mem_append_right _ (List.mem_append_right _ (List.mem_append_right _ (List.mem_append_right _ (List.mem_append_right _ (List.mem_append_right _ (List.mem_append_right _ (List.mem_append_right _ (List.mem_append_right _ (List.mem_append_right _ (List.mem_append_right _ (List.mem_append_right _ (List.mem_append_right _ (List.mem_append_left _ h)))))))))))))))))))))
theorem zin22 {w : Cond} (h : w ∈ wsX80) : w ∈ zAll := List.mem_append_right _ (List.mem_append_right _ (List.mem_append_right _ (List.mem_append_right _ (List.mem_append_right _ (List.mem_append_right _ (List.mem_append_right _ (List.mem_append_right _ (List.mem_append_right _ (List.mem_append_right _ (List.mem_append_right _ (List.mem_append_right _ (List.mem_append_right _ (List.mem_append_right _ (List.mem_append_right _ (List.mem_append_right _ (List.mem_append_right _ (List.mem_append_right _ (List.mem_append_right _ (List.mem_append_right _ (List.mem_append_right _ (List.mem_append_right _ (List.mem_append_left _ h))))))))))))))))))))))
theorem zin23 {w : Cond} (h : w ∈ wsJx000600) : w ∈ zAll := List.mem_append_right _ (List.mem_append_right _ (List.mem_append_right _ (List.mem_append_right _ (List.mem_append_right _ (List.mem_append_right _ (List.mem_append_right _ (List.mem_append_right _ (List.mem_append_right _ (List.mem_append_right _ (List.mem_append_right _ (List.mem_append_right _ (List.mem_append_right _ (List.mem_append_right _ (List.mem_append_right _ (List.mem_append_right _ (List.mem_append_right _ (List.mem_append_right _ (List.mem_append_right _ (List.mem_append_right _ (List.mem_append_right _ (List.mem_append_right _ (List.mem_append_right _ (List.mem_append_left _ h)))))))))))))))))))))))
theorem zin24 {w : Cond} (h : w ∈ wsJ00) : w ∈ zAll := List.mem_append_right _ (List.mem_append_right _ (List.mem_append_right _ (List.mem_append_right _ (List.mem_append_right _ (List.mem_append_right _ (List.mem_append_right _ (List.mem_append_right _ (List.mem_append_right _ (List.mem_append_right _ (List.mem_append_right _ (List.mem_append_right _ (List.mem_append_right _ (List.mem_append_right _ (List.mem_append_right _ (List.mem_append_right _ (List.mem_append_right _ (List.mem_append_right _ (List.mem_append_right _ (List.mem_append_right _ (List.mem_append_right _ (List.mem_append_right _ (List.mem_append_right _ (List.mem_append_right _ (List.mem_append_left _ h))))))))))))))))))))))))
theorem zin25 {w : Cond} (h : w ∈ wsJx4a65c0) : w ∈ zAll := List.mem_append_right _ (List.mem_append_right _ (List.mem_append_right _ (List.mem_append_right _ (List.mem_append_right _ (List.mem_append_right _ (List.mem_append_right _ (List.mem_append_right _ (List.mem_append_right _ (List.mem_append_right _ (List.mem_append_right _ (List.mem_append_right _ (List.mem_append_right _ (List.mem_append_right _ (List.mem_append_right _ (List.mem_append_right _ (List.mem_append_right _ (List.mem_append_right _ (List.mem_append_right _ (List.mem_append_right _ (List.mem_append_right _ (List.mem_append_right _ (List.mem_append_right _ (List.mem_append_right _ (List.mem_append_right _ (List.mem_append_left _ h)))))))))))))))))))))))))
theorem zin26 {w : Cond} (h : w ∈ ((vx_atS RX7 253 "java/lang/IllegalArgumentException" ["java/lang/RuntimeException", "java/lang/Exception"]).filter goodWord)) : w ∈ zAll := List.mem_append_right _ (List.mem_append_right _ (List.mem_append_right _ (List.mem_append_right _ (List.mem_append_right _ (List.mem_append_right _ (List.mem_append_right _ (List.mem_append_right _ (List.mem_append_right _ (List.mem_append_right _ (List.mem_append_right _ (List.mem_append_right _ (List.mem_append_right _ (List.mem_append_right _ (List.mem_append_right _ (List.mem_append_right _ (List.mem_append_right _ (List.mem_append_right _ (List.mem_append_right _ (List.mem_append_right _ (List.mem_append_right _ (List.mem_append_right _ (List.mem_append_right _ (List.mem_append_right _ (List.mem_append_right _ (List.mem_append_right _ (List.mem_append_left _ h))))))))))))))))))))))))))
theorem zin27 {w : Cond} (h : w ∈ ((vx_atS RX7 260 "java/lang/IndexOutOfBoundsException" ["java/lang/RuntimeException", "java/lang/Exception"]).filter goodWord)) : w ∈ zAll := List.mem_append_right _ (List.mem_append_right _ (List.mem_append_right _ (List.mem_append_right _ (List.mem_append_right _ (List.mem_append_right _ (List.mem_append_right _ (List.mem_append_right _ (List.mem_append_right _ (List.mem_append_right _ (List.mem_append_right _ (List.mem_append_right _ (List.mem_append_right _ (List.mem_append_right _ (List.mem_append_right _ (List.mem_append_right _ (List.mem_append_right _ (List.mem_append_right _ (List.mem_append_right _ (List.mem_append_right _ (List.mem_append_right _ (List.mem_append_right _ (List.mem_append_right _ (List.mem_append_right _ (List.mem_append_right _ (List.mem_append_right _ (List.mem_append_right _ (List.mem_append_left _ h)))))))))))))))))))))))))))
theorem zin28 {w : Cond} (h : w ∈ ((vx_atS RX7 82 "java/lang/UnsupportedOperationException" ["java/lang/RuntimeException", "java/lang/Exception"]).filter goodWord)) : w ∈ zAll := List.mem_append_right _ (List.mem_append_right _ (List.mem_append_right _ (List.mem_append_right _ (List.mem_append_right _ (List.mem_append_right _ (List.mem_append_right _ (List.mem_append_right _ (List.mem_append_right _ (List.mem_append_right _ (List.mem_append_right _ (List.mem_append_right _ (List.mem_append_right _ (List.mem_append_right _ (List.mem_append_right _ (List.mem_append_right _ (List.mem_append_right _ (List.mem_append_right _ (List.mem_append_right _ (List.mem_append_right _ (List.mem_append_right _ (List.mem_append_right _ (List.mem_append_right _ (List.mem_append_right _ (List.mem_append_right _ (List.mem_append_right _ (List.mem_append_right _ (List.mem_append_right _ (List.mem_append_left _ h))))))))))))))))))))))))))))
theorem zin29 {w : Cond} (h : w ∈ ((vx_atS RX7 108 "java/lang/IllegalStateException" ["java/lang/RuntimeException", "java/lang/Exception"]).filter goodWord)) : w ∈ zAll := List.mem_append_right _ (List.mem_append_right _ (List.mem_append_right _ (List.mem_append_right _ (List.mem_append_right _ (List.mem_append_right _ (List.mem_append_right _ (List.mem_append_right _ (List.mem_append_right _ (List.mem_append_right _ (List.mem_append_right _ (List.mem_append_right _ (List.mem_append_right _ (List.mem_append_right _ (List.mem_append_right _ (List.mem_append_right _ (List.mem_append_right _ (List.mem_append_right _ (List.mem_append_right _ (List.mem_append_right _ (List.mem_append_right _ (List.mem_append_right _ (List.mem_append_right _ (List.mem_append_right _ (List.mem_append_right _ (List.mem_append_right _ (List.mem_append_right _ (List.mem_append_right _ (List.mem_append_right _ (List.mem_append_left _ h)))))))))))))))))))))))))))))
theorem zin30 {w : Cond} (h : w ∈ ((vx_atS RX7 272 "java/util/NoSuchElementException" ["java/lang/RuntimeException", "java/lang/Exception"]).filter goodWord)) : w ∈ zAll := List.mem_append_right _ (List.mem_append_right _ (List.mem_append_right _ (List.mem_append_right _ (List.mem_append_right _ (List.mem_append_right _ (List.mem_append_right _ (List.mem_append_right _ (List.mem_append_right _ (List.mem_append_right _ (List.mem_append_right _ (List.mem_append_right _ (List.mem_append_right _ (List.mem_append_right _ (List.mem_append_right _ (List.mem_append_right _ (List.mem_append_right _ (List.mem_append_right _ (List.mem_append_right _ (List.mem_append_right _ (List.mem_append_right _ (List.mem_append_right _ (List.mem_append_right _ (List.mem_append_right _ (List.mem_append_right _ (List.mem_append_right _ (List.mem_append_right _ (List.mem_append_right _ (List.mem_append_right _ (List.mem_append_right _ (List.mem_append_left _ h))))))))))))))))))))))))))))))
theorem zin31 {w : Cond} (h : w ∈ ((vx_atS RX7 242 "java/lang/ArithmeticException" ["java/lang/RuntimeException", "java/lang/Exception"]).filter goodWord)) : w ∈ zAll := List.mem_append_right _ (List.mem_append_right _ (List.mem_append_right _ (List.mem_append_right _ (List.mem_append_right _ (List.mem_append_right _ (List.mem_append_right _ (List.mem_append_right _ (List.mem_append_right _ (List.mem_append_right _ (List.mem_append_right _ (List.mem_append_right _ (List.mem_append_right _ (List.mem_append_right _ (List.mem_append_right _ (List.mem_append_right _ (List.mem_append_right _ (List.mem_append_right _ (List.mem_append_right _ (List.mem_append_right _ (List.mem_append_right _ (List.mem_append_right _ (List.mem_append_right _ (List.mem_append_right _ (List.mem_append_right _ (List.mem_append_right _ (List.mem_append_right _ (List.mem_append_right _ (List.mem_append_right _ (List.mem_append_right _ (List.mem_append_right _ (h)))))))))))))))))))))))))))))))
theorem zg0 : ∀ w ∈ zW0, goodWord w = true := by decide +kernel
theorem zg1 : ∀ w ∈ zW1, goodWord w = true := by decide +kernel
theorem zg2 : ∀ w ∈ zW2, goodWord w = true := by decide +kernel
theorem zg3 : ∀ w ∈ zW3, goodWord w = true := by decide +kernel
theorem zg4 : ∀ w ∈ zW4, goodWord w = true := by decide +kernel
theorem zg5 : ∀ w ∈ zW5, goodWord w = true := by decide +kernel
theorem zg6 : ∀ w ∈ zW6, goodWord w = true := by decide +kernel
theorem zg7 : ∀ w ∈ zW7, goodWord w = true := by decide +kernel
theorem zg8 : ∀ w ∈ zW8, goodWord w = true := by decide +kernel
theorem zg9 : ∀ w ∈ zW9, goodWord w = true := by decide +kernel
theorem zg10 : ∀ w ∈ zW10, goodWord w = true := by decide +kernel
theorem zg11 : ∀ w ∈ zW11, goodWord w = true := by decide +kernel
theorem zg12 : ∀ w ∈ zW12, goodWord w = true := by decide +kernel
theorem zg13 : ∀ w ∈ zW13, goodWord w = true := by decide +kernel
theorem zg14 : ∀ w ∈ wsX00, goodWord w = true := by decide +kernel
theorem zg15 : ∀ w ∈ wsX10, goodWord w = true := by decide +kernel
theorem zg16 : ∀ w ∈ wsX20, goodWord w = true := by decide +kernel
theorem zg17 : ∀ w ∈ wsX30, goodWord w = true := by decide +kernel
theorem zg18 : ∀ w ∈ wsX40, goodWord w = true := by decide +kernel
theorem zg19 : ∀ w ∈ wsX50, goodWord w = true := by decide +kernel
theorem zg20 : ∀ w ∈ wsX60, goodWord w = true := by decide +kernel
theorem zg21 : ∀ w ∈ wsX70, goodWord w = true := by decide +kernel
theorem zg22 : ∀ w ∈ wsX80, goodWord w = true := by decide +kernel
theorem zg23 : ∀ w ∈ wsJx000600, goodWord w = true := by decide +kernel
theorem zg24 : ∀ w ∈ wsJ00, goodWord w = true := by decide +kernel
theorem zg25 : ∀ w ∈ wsJx4a65c0, goodWord w = true := by decide +kernel
theorem zg26 : ∀ w ∈ (vx_atS RX7 253 "java/lang/IllegalArgumentException" ["java/lang/RuntimeException", "java/lang/Exception"]).filter goodWord, goodWord w = true := fun w h => (List.mem_filter.mp h).2
theorem zg27 : ∀ w ∈ (vx_atS RX7 260 "java/lang/IndexOutOfBoundsException" ["java/lang/RuntimeException", "java/lang/Exception"]).filter goodWord, goodWord w = true := fun w h => (List.mem_filter.mp h).2
theorem zg28 : ∀ w ∈ (vx_atS RX7 82 "java/lang/UnsupportedOperationException" ["java/lang/RuntimeException", "java/lang/Exception"]).filter goodWord, goodWord w = true := fun w h => (List.mem_filter.mp h).2
theorem zg29 : ∀ w ∈ (vx_atS RX7 108 "java/lang/IllegalStateException" ["java/lang/RuntimeException", "java/lang/Exception"]).filter goodWord, goodWord w = true := fun w h => (List.mem_filter.mp h).2
theorem zg30 : ∀ w ∈ (vx_atS RX7 272 "java/util/NoSuchElementException" ["java/lang/RuntimeException", "java/lang/Exception"]).filter goodWord, goodWord w = true := fun w h => (List.mem_filter.mp h).2
theorem zg31 : ∀ w ∈ (vx_atS RX7 242 "java/lang/ArithmeticException" ["java/lang/RuntimeException", "java/lang/Exception"]).filter goodWord, goodWord w = true := fun w h => (List.mem_filter.mp h).2
theorem zGood : ∀ w ∈ zAll, goodWord w = true := fun w h => (List.mem_append.mp h).elim (fun h => zg0 w h) (fun h => (List.mem_append.mp h).elim (fun h => zg1 w h) (fun h => (List.mem_append.mp h).elim (fun h => zg2 w h) (fun h => (List.mem_append.mp h).elim (fun h => zg3 w h) (fun h => (List.mem_append.mp h).elim (fun h => zg4 w h) (fun h => (List.mem_append.mp h).elim (fun h => zg5 w h) (fun h => (List.mem_append.mp h).elim (fun h => zg6 w h) (fun h => (List.mem_append.mp h).elim (fun h => zg7 w h) (fun h => (List.mem_append.mp h).elim (fun h => zg8 w h) (fun h => (List.mem_append.mp h).elim (fun h => zg9 w h) (fun h => (List.mem_append.mp h).elim (fun h => zg10 w h) (fun h => (List.mem_append.mp h).elim (fun h => zg11 w h) (fun h => (List.mem_append.mp h).elim (fun h => zg12 w h) (fun h => (List.mem_append.mp h).elim (fun h => zg13 w h) (fun h => (List.mem_append.mp h).elim (fun h => zg14 w h) (fun h => (List.mem_append.mp h).elim (fun h => zg15 w h) (fun h => (List.mem_append.mp h).elim (fun h => zg16 w h) (fun h => (List.mem_append.mp h).elim (fun h => zg17 w h) (fun h => (List.mem_append.mp h).elim (fun h => zg18 w h) (fun h => (List.mem_append.mp h).elim (fun h => zg19 w h) (fun h => (List.mem_append.mp h).elim (fun h => zg20 w h) (fun h => (List.mem_append.mp h).elim (fun h => zg21 w h) (fun h => (List.mem_append.mp h).elim (fun h => zg22 w h) (fun h => (List.mem_append.mp h).elim (fun h => zg23 w h) (fun h => (List.mem_append.mp h).elim (fun h => zg24 w h) (fun h => (List.mem_append.mp h).elim (fun h => zg25 w h) (fun h => (List.mem_append.mp h).elim (fun h => zg26 w h) (fun h => (List.mem_append.mp h).elim (fun h => zg27 w h) (fun h => (List.mem_append.mp h).elim (fun h => zg28 w h) (fun h => (List.mem_append.mp h).elim (fun h => zg29 w h) (fun h => (List.mem_append.mp h).elim (fun h => zg30 w h) (fun h => zg31 w h)))))))))))))))))))))))))))))))
theorem zm0_0 : Cond.code yX0_init cX0_init 6 none ∈ zAll := zin0 (List.mem_of_getElem? (i := 0) rfl)
theorem zm0_1 : Cond.methodLink RX0 1 objectInit ∈ zAll := zin0 (List.mem_of_getElem? (i := 1) rfl)
theorem zm0_2 : Cond.instanceMethod objectInit ∈ zAll := zin0 (List.mem_of_getElem? (i := 2) rfl)
theorem zm0_3 : Cond.code objectInit ⟨#[0xb1]⟩ 1 none ∈ zAll := zin0 (List.mem_of_getElem? (i := 3) rfl)
theorem zm0_4 : Cond.fieldLink RX0 7 "ClaqueRow$Cue" "singer" "LClaqueRow$Singer;" ∈ zAll := zin0 (List.mem_of_getElem? (i := 4) rfl)
theorem zm0_5 : Cond.fieldLink RX0 13 "ClaqueRow$Cue" "kind" "C" ∈ zAll := zin0 (List.mem_of_getElem? (i := 5) rfl)
theorem zm0_6 : Cond.fieldLink RX0 17 "ClaqueRow$Cue" "tick" "I" ∈ zAll := zin0 (List.mem_of_getElem? (i := 6) rfl)
theorem zm0_7 : Cond.fieldLink RX0 21 "ClaqueRow$Cue" "force" "I" ∈ zAll := zin0 (List.mem_of_getElem? (i := 7) rfl)
theorem zm0_8 : Cond.fieldLink RX0 24 "ClaqueRow$Cue" "ticks" "I" ∈ zAll := zin0 (List.mem_of_getElem? (i := 8) rfl)
theorem zm0_9 : Cond.code yX0_lastTick cX0_lastTick 1 (some .int) ∈ zAll := zin0 (List.mem_of_getElem? (i := 9) rfl)
theorem zm0_10 : Cond.code yX0_isOnIn cX0_isOnIn 2 (some .boolean) ∈ zAll := zin0 (List.mem_of_getElem? (i := 10) rfl)
theorem zm0_11 : Cond.methodLink RX0 27 yX0_lastTick ∈ zAll := zin0 (List.mem_of_getElem? (i := 11) rfl)
theorem zm0_12 : Cond.instanceMethod yX0_lastTick ∈ zAll := zin0 (List.mem_of_getElem? (i := 12) rfl)
theorem zm0_13 : Cond.selects RX0 yX0_lastTick yX0_lastTick ∈ zAll := zin0 (List.mem_of_getElem? (i := 13) rfl)
theorem zm0_14 : Cond.initialized RX0 ∈ zAll := zin0 (List.mem_of_getElem? (i := 14) rfl)
theorem zm0_15 : Cond.code yJxa1e45_init_da8c8 cJxa1e45_init_da8c8 1 none ∈ zAll := zin0 (List.mem_of_getElem? (i := 15) rfl)
theorem zm0_16 : Cond.methodLink RJxa1e45 1 objectInit ∈ zAll := zin0 (List.mem_of_getElem? (i := 16) rfl)
theorem zm0_17 : Cond.code yJxc12de_init_da8c8 cJxc12de_init_da8c8 1 none ∈ zAll := zin0 (List.mem_of_getElem? (i := 17) rfl)
theorem zm0_18 : Cond.fieldLink RJxc12de 7 "java/util/AbstractList" "modCount" "I" ∈ zAll := zin0 (List.mem_of_getElem? (i := 18) rfl)
theorem zm0_19 : Cond.methodLink RJxc12de 1 yJxa1e45_init_da8c8 ∈ zAll := zin0 (List.mem_of_getElem? (i := 19) rfl)
theorem zm0_20 : Cond.instanceMethod yJxa1e45_init_da8c8 ∈ zAll := zin0 (List.mem_of_getElem? (i := 20) rfl)
theorem zm0_21 : Cond.initialized RJxa1e45 ∈ zAll := zin0 (List.mem_of_getElem? (i := 21) rfl)
theorem zm0_22 : Cond.code yJx4a65c_init_da8c8 cJx4a65c_init_da8c8 1 none ∈ zAll := zin0 (List.mem_of_getElem? (i := 22) rfl)
theorem zm0_23 : Cond.fieldLink RJx4a65c 39 "java/util/ArrayList" "DEFAULTCAPACITY_EMPTY_ELEMENTDATA" "[Ljava/lang/Object;" ∈ zAll := zin0 (List.mem_of_getElem? (i := 23) rfl)
theorem zm0_24 : Cond.fieldLink RJx4a65c 9 "java/util/ArrayList" "elementData" "[Ljava/lang/Object;" ∈ zAll := zin0 (List.mem_of_getElem? (i := 24) rfl)
theorem zm0_25 : Cond.methodLink RJx4a65c 1 yJxc12de_init_da8c8 ∈ zAll := zin0 (List.mem_of_getElem? (i := 25) rfl)
theorem zm0_26 : Cond.instanceMethod yJxc12de_init_da8c8 ∈ zAll := zin0 (List.mem_of_getElem? (i := 26) rfl)
theorem zm0_27 : Cond.initialized RJxc12de ∈ zAll := zin0 (List.mem_of_getElem? (i := 27) rfl)
theorem zm0_28 : Cond.methodLink RX1 3 objectInit ∈ zAll := zin0 (List.mem_of_getElem? (i := 28) rfl)
theorem zm0_29 : Cond.classLink RX1 9 RJx4a65c ∈ zAll := zin0 (List.mem_of_getElem? (i := 29) rfl)
theorem zm0_30 : Cond.instantiable RJx4a65c 3 ∈ zAll := zin0 (List.mem_of_getElem? (i := 30) rfl)
theorem zm0_31 : Cond.initialized RJx4a65c ∈ zAll := zin0 (List.mem_of_getElem? (i := 31) rfl)
theorem zm0_32 : Cond.fieldLink RX1 12 "ClaqueRow$Evening" "cues" "Ljava/util/ArrayList;" ∈ zAll := zin0 (List.mem_of_getElem? (i := 32) rfl)
theorem zm0_33 : Cond.fieldLink RX1 18 "ClaqueRow$Evening" "level" "I" ∈ zAll := zin0 (List.mem_of_getElem? (i := 33) rfl)
theorem zm0_34 : Cond.fieldLink RX1 22 "ClaqueRow$Evening" "ticks" "I" ∈ zAll := zin0 (List.mem_of_getElem? (i := 34) rfl)
theorem zm0_35 : Cond.fieldLink RX1 25 "ClaqueRow$Evening" "loudTicks" "I" ∈ zAll := zin0 (List.mem_of_getElem? (i := 35) rfl)
theorem zm0_36 : Cond.fieldLink RX1 28 "ClaqueRow$Evening" "calls" "I" ∈ zAll := zin0 (List.mem_of_getElem? (i := 36) rfl)
theorem zm0_37 : Cond.fieldLink RX1 31 "ClaqueRow$Evening" "hisses" "I" ∈ zAll := zin0 (List.mem_of_getElem? (i := 37) rfl)
theorem zm0_38 : Cond.fieldLink RX1 34 "ClaqueRow$Evening" "suspicions" "I" ∈ zAll := zin0 (List.mem_of_getElem? (i := 38) rfl)
theorem zm0_39 : Cond.methodLink RX1 11 yJx4a65c_init_da8c8 ∈ zAll := zin0 (List.mem_of_getElem? (i := 39) rfl)
theorem zm0_40 : Cond.instanceMethod yJx4a65c_init_da8c8 ∈ zAll := zin0 (List.mem_of_getElem? (i := 40) rfl)
theorem zm0_41 : Cond.code yX1_init cX1_init 1 none ∈ zAll := zin0 (List.mem_of_getElem? (i := 41) rfl)
theorem zm0_42 : Cond.code yJx4a65c_clear_da8c8 cJx4a65c_clear_da8c8 4 none ∈ zAll := zin0 (List.mem_of_getElem? (i := 42) rfl)
theorem zm0_43 : Cond.fieldLink RJx4a65c 63 "java/util/ArrayList" "modCount" "I" ∈ zAll := zin0 (List.mem_of_getElem? (i := 43) rfl)
theorem zm0_44 : Cond.sameField "java/util/ArrayList" "java/util/AbstractList" "modCount" "I" ∈ zAll := zin0 (List.mem_of_getElem? (i := 44) rfl)
theorem zm0_45 : Cond.fieldLink RJx4a65c 48 "java/util/ArrayList" "size" "I" ∈ zAll := zin0 (List.mem_of_getElem? (i := 45) rfl)
theorem zm0_46 : Cond.code yX1_begin cX1_begin 1 none ∈ zAll := zin0 (List.mem_of_getElem? (i := 46) rfl)
theorem zm0_47 : Cond.methodLink RX1 37 yJx4a65c_clear_da8c8 ∈ zAll := zin0 (List.mem_of_getElem? (i := 47) rfl)
theorem zm0_48 : Cond.instanceMethod yJx4a65c_clear_da8c8 ∈ zAll := zin0 (List.mem_of_getElem? (i := 48) rfl)
theorem zm0_49 : Cond.selects RJx4a65c yJx4a65c_clear_da8c8 yJx4a65c_clear_da8c8 ∈ zAll := zin0 (List.mem_of_getElem? (i := 49) rfl)
theorem zm0_50 : Cond.code yX1_handsAreFoundOut cX1_handsAreFoundOut 1 (some .boolean) ∈ zAll := zin0 (List.mem_of_getElem? (i := 50) rfl)
theorem zm0_51 : Cond.code yX4_keepTickAhead cX4_keepTickAhead 1 none ∈ zAll := zin0 (List.mem_of_getElem? (i := 51) rfl)
theorem zm0_52 : Cond.fieldLink RX4 23 "ClaqueRow$Seat" "noise" "I" ∈ zAll := zin0 (List.mem_of_getElem? (i := 52) rfl)
theorem zm0_53 : Cond.fieldLink RX4 26 "ClaqueRow$Seat" "noiseAhead" "I" ∈ zAll := zin0 (List.mem_of_getElem? (i := 53) rfl)
theorem zm0_54 : Cond.fieldLink RX4 36 "ClaqueRow$Seat" "hissed" "Z" ∈ zAll := zin0 (List.mem_of_getElem? (i := 54) rfl)
theorem zm0_55 : Cond.fieldLink RX4 39 "ClaqueRow$Seat" "hissedAhead" "Z" ∈ zAll := zin0 (List.mem_of_getElem? (i := 55) rfl)
theorem zm0_56 : Cond.code yX3_keepTickAhead cX3_keepTickAhead 5 none ∈ zAll := zin0 (List.mem_of_getElem? (i := 56) rfl)
theorem zm0_57 : Cond.fieldLink RX3 11 "ClaqueRow$House" "seats" "[LClaqueRow$Seat;" ∈ zAll := zin0 (List.mem_of_getElem? (i := 57) rfl)
theorem zm0_58 : Cond.methodLink RX3 32 yX4_keepTickAhead ∈ zAll := zin0 (List.mem_of_getElem? (i := 58) rfl)
theorem zm0_59 : Cond.instanceMethod yX4_keepTickAhead ∈ zAll := zin0 (List.mem_of_getElem? (i := 59) rfl)
theorem zm0_60 : Cond.selects RX4 yX4_keepTickAhead yX4_keepTickAhead ∈ zAll := zin0 (List.mem_of_getElem? (i := 60) rfl)
theorem zm0_61 : Cond.initialized RX4 ∈ zAll := zin0 (List.mem_of_getElem? (i := 61) rfl)
theorem zm0_62 : Cond.code yX3_seatOrNull cX3_seatOrNull 4 (some (.object "ClaqueRow$Seat")) ∈ zAll := zin0 (List.mem_of_getElem? (i := 62) rfl)
theorem zm0_63 : Cond.fieldLink RX3 17 "ClaqueRow$House" "rows" "I" ∈ zAll := zin0 (List.mem_of_getElem? (i := 63) rfl)
theorem zm0_64 : Cond.fieldLink RX3 21 "ClaqueRow$House" "columns" "I" ∈ zAll := zin0 (List.mem_of_getElem? (i := 64) rfl)
theorem zm0_65 : Cond.code yX4_heardByNeighbours cX4_heardByNeighbours 1 (some .int) ∈ zAll := zin0 (List.mem_of_getElem? (i := 65) rfl)
theorem zm0_66 : Cond.code yX3_around cX3_around 7 (some .int) ∈ zAll := zin0 (List.mem_of_getElem? (i := 66) rfl)
theorem zm0_67 : Cond.methodLink RX3 35 yX3_seatOrNull ∈ zAll := zin0 (List.mem_of_getElem? (i := 67) rfl)
theorem zm0_68 : Cond.instanceMethod yX3_seatOrNull ∈ zAll := zin0 (List.mem_of_getElem? (i := 68) rfl)
theorem zm0_69 : Cond.selects RX3 yX3_seatOrNull yX3_seatOrNull ∈ zAll := zin0 (List.mem_of_getElem? (i := 69) rfl)
theorem zm1_0 : Cond.initialized RX3 ∈ zAll := zin1 (List.mem_of_getElem? (i := 0) rfl)
theorem zm1_1 : Cond.methodLink RX3 39 yX4_heardByNeighbours ∈ zAll := zin1 (List.mem_of_getElem? (i := 1) rfl)
theorem zm1_2 : Cond.instanceMethod yX4_heardByNeighbours ∈ zAll := zin1 (List.mem_of_getElem? (i := 2) rfl)
theorem zm1_3 : Cond.selects RX4 yX4_heardByNeighbours yX4_heardByNeighbours ∈ zAll := zin1 (List.mem_of_getElem? (i := 3) rfl)
theorem zm1_4 : Cond.code yX4_tirednessNow cX4_tirednessNow 1 (some .int) ∈ zAll := zin1 (List.mem_of_getElem? (i := 4) rfl)
theorem zm1_5 : Cond.fieldLink RX4 33 "ClaqueRow$Seat" "joins" "I" ∈ zAll := zin1 (List.mem_of_getElem? (i := 5) rfl)
theorem zm1_6 : Cond.code yX4_soundAsPayer cX4_soundAsPayer 2 none ∈ zAll := zin1 (List.mem_of_getElem? (i := 6) rfl)
theorem zm1_7 : Cond.fieldLink RX4 15 "ClaqueRow$Seat" "threshold" "I" ∈ zAll := zin1 (List.mem_of_getElem? (i := 7) rfl)
theorem zm1_8 : Cond.fieldLink RX4 29 "ClaqueRow$Seat" "joined" "Z" ∈ zAll := zin1 (List.mem_of_getElem? (i := 8) rfl)
theorem zm1_9 : Cond.methodLink RX4 55 Lib.Math.min.name ∈ zAll := zin1 (List.mem_of_getElem? (i := 9) rfl)
theorem zm1_10 : Cond.static Lib.Math.min.name ∈ zAll := zin1 (List.mem_of_getElem? (i := 10) rfl)
theorem zm1_11 : Cond.initialized "java/lang/Math" ∈ zAll := zin1 (List.mem_of_getElem? (i := 11) rfl)
theorem zm1_12 : Cond.code Lib.Math.min.name Lib.Math.min.code 2 (some .int) ∈ zAll := zin1 (List.mem_of_getElem? (i := 12) rfl)
theorem zm1_13 : Cond.methodLink RX4 61 Lib.Math.max.name ∈ zAll := zin1 (List.mem_of_getElem? (i := 13) rfl)
theorem zm1_14 : Cond.static Lib.Math.max.name ∈ zAll := zin1 (List.mem_of_getElem? (i := 14) rfl)
theorem zm1_15 : Cond.code Lib.Math.max.name Lib.Math.max.code 2 (some .int) ∈ zAll := zin1 (List.mem_of_getElem? (i := 15) rfl)
theorem zm1_16 : Cond.methodLink RX4 51 yX4_tirednessNow ∈ zAll := zin1 (List.mem_of_getElem? (i := 16) rfl)
theorem zm1_17 : Cond.instanceMethod yX4_tirednessNow ∈ zAll := zin1 (List.mem_of_getElem? (i := 17) rfl)
theorem zm1_18 : Cond.selects RX4 yX4_tirednessNow yX4_tirednessNow ∈ zAll := zin1 (List.mem_of_getElem? (i := 18) rfl)
theorem zm1_19 : Cond.code yJx4a65c_size_8abf5 cJx4a65c_size_8abf5 1 (some .int) ∈ zAll := zin1 (List.mem_of_getElem? (i := 19) rfl)
theorem zm1_20 : Cond.code yJ3_checkIndex_8e157 cJ3_checkIndex_8e157 3 (some .int) ∈ zAll := zin1 (List.mem_of_getElem? (i := 20) rfl)
theorem zm1_21 : Cond.code yJ15_checkIndex_7cf53 cJ15_checkIndex_7cf53 2 (some .int) ∈ zAll := zin1 (List.mem_of_getElem? (i := 21) rfl)
theorem zm1_22 : Cond.methodLink RJ15 105 yJ3_checkIndex_8e157 ∈ zAll := zin1 (List.mem_of_getElem? (i := 22) rfl)
theorem zm1_23 : Cond.static yJ3_checkIndex_8e157 ∈ zAll := zin1 (List.mem_of_getElem? (i := 23) rfl)
theorem zm1_24 : Cond.initialized RJ3 ∈ zAll := zin1 (List.mem_of_getElem? (i := 24) rfl)
theorem zm1_25 : Cond.code yJx4a65c_elementData_915e3 cJx4a65c_elementData_915e3 2 (some (.object "java/lang/Object")) ∈ zAll := zin1 (List.mem_of_getElem? (i := 25) rfl)
theorem zm1_26 : Cond.code yJx4a65c_get_915e3 cJx4a65c_get_915e3 2 (some (.object "java/lang/Object")) ∈ zAll := zin1 (List.mem_of_getElem? (i := 26) rfl)
theorem zm1_27 : Cond.methodLink RJx4a65c 118 yJ15_checkIndex_7cf53 ∈ zAll := zin1 (List.mem_of_getElem? (i := 27) rfl)
theorem zm1_28 : Cond.static yJ15_checkIndex_7cf53 ∈ zAll := zin1 (List.mem_of_getElem? (i := 28) rfl)
theorem zm1_29 : Cond.initialized RJ15 ∈ zAll := zin1 (List.mem_of_getElem? (i := 29) rfl)
theorem zm1_30 : Cond.methodLink RJx4a65c 123 yJx4a65c_elementData_915e3 ∈ zAll := zin1 (List.mem_of_getElem? (i := 30) rfl)
theorem zm1_31 : Cond.instanceMethod yJx4a65c_elementData_915e3 ∈ zAll := zin1 (List.mem_of_getElem? (i := 31) rfl)
theorem zm1_32 : Cond.selects RJx4a65c yJx4a65c_elementData_915e3 yJx4a65c_elementData_915e3 ∈ zAll := zin1 (List.mem_of_getElem? (i := 32) rfl)
theorem zm1_33 : Cond.code yX2_follows cX2_follows 2 (some .boolean) ∈ zAll := zin1 (List.mem_of_getElem? (i := 33) rfl)
theorem zm1_34 : Cond.fieldLink RX2 19 "ClaqueRow$Hand" "kind" "C" ∈ zAll := zin1 (List.mem_of_getElem? (i := 34) rfl)
theorem zm1_35 : Cond.fieldLink RX2 32 "ClaqueRow$Cue" "kind" "C" ∈ zAll := zin1 (List.mem_of_getElem? (i := 35) rfl)
theorem zm1_36 : Cond.classLink RX1 114 "ClaqueRow$Cue" ∈ zAll := zin1 (List.mem_of_getElem? (i := 36) rfl)
theorem zm1_37 : Cond.fieldLink RX1 126 "ClaqueRow$Cue" "force" "I" ∈ zAll := zin1 (List.mem_of_getElem? (i := 37) rfl)
theorem zm1_38 : Cond.methodLink RX1 129 Lib.Math.max.name ∈ zAll := zin1 (List.mem_of_getElem? (i := 38) rfl)
theorem zm1_39 : Cond.fieldLink RX1 134 "ClaqueRow$Hand" "strength" "I" ∈ zAll := zin1 (List.mem_of_getElem? (i := 39) rfl)
theorem zm1_40 : Cond.methodLink RX1 137 Lib.Math.min.name ∈ zAll := zin1 (List.mem_of_getElem? (i := 40) rfl)
theorem zm1_41 : Cond.methodLink RX1 103 yX1_handsAreFoundOut ∈ zAll := zin1 (List.mem_of_getElem? (i := 41) rfl)
theorem zm1_42 : Cond.instanceMethod yX1_handsAreFoundOut ∈ zAll := zin1 (List.mem_of_getElem? (i := 42) rfl)
theorem zm1_43 : Cond.selects RX1 yX1_handsAreFoundOut yX1_handsAreFoundOut ∈ zAll := zin1 (List.mem_of_getElem? (i := 43) rfl)
theorem zm1_44 : Cond.initialized RX1 ∈ zAll := zin1 (List.mem_of_getElem? (i := 44) rfl)
theorem zm1_45 : Cond.methodLink RX1 107 yJx4a65c_size_8abf5 ∈ zAll := zin1 (List.mem_of_getElem? (i := 45) rfl)
theorem zm1_46 : Cond.instanceMethod yJx4a65c_size_8abf5 ∈ zAll := zin1 (List.mem_of_getElem? (i := 46) rfl)
theorem zm1_47 : Cond.selects RJx4a65c yJx4a65c_size_8abf5 yJx4a65c_size_8abf5 ∈ zAll := zin1 (List.mem_of_getElem? (i := 47) rfl)
theorem zm1_48 : Cond.methodLink RX1 110 yJx4a65c_get_915e3 ∈ zAll := zin1 (List.mem_of_getElem? (i := 48) rfl)
theorem zm1_49 : Cond.instanceMethod yJx4a65c_get_915e3 ∈ zAll := zin1 (List.mem_of_getElem? (i := 49) rfl)
theorem zm1_50 : Cond.selects RJx4a65c yJx4a65c_get_915e3 yJx4a65c_get_915e3 ∈ zAll := zin1 (List.mem_of_getElem? (i := 50) rfl)
theorem zm1_51 : Cond.methodLink RX1 116 yX0_isOnIn ∈ zAll := zin1 (List.mem_of_getElem? (i := 51) rfl)
theorem zm1_52 : Cond.instanceMethod yX0_isOnIn ∈ zAll := zin1 (List.mem_of_getElem? (i := 52) rfl)
theorem zm1_53 : Cond.selects RX0 yX0_isOnIn yX0_isOnIn ∈ zAll := zin1 (List.mem_of_getElem? (i := 53) rfl)
theorem zm1_54 : Cond.methodLink RX1 120 yX2_follows ∈ zAll := zin1 (List.mem_of_getElem? (i := 54) rfl)
theorem zm1_55 : Cond.instanceMethod yX2_follows ∈ zAll := zin1 (List.mem_of_getElem? (i := 55) rfl)
theorem zm1_56 : Cond.selects RX2 yX2_follows yX2_follows ∈ zAll := zin1 (List.mem_of_getElem? (i := 56) rfl)
theorem zm1_57 : Cond.initialized RX2 ∈ zAll := zin1 (List.mem_of_getElem? (i := 57) rfl)
theorem zm1_58 : Cond.code yX1_noiseOf cX1_noiseOf 5 (some .int) ∈ zAll := zin1 (List.mem_of_getElem? (i := 58) rfl)
theorem zm1_59 : Cond.fieldLink RX1 75 "ClaqueRow$Seat" "who" "C" ∈ zAll := zin1 (List.mem_of_getElem? (i := 59) rfl)
theorem zm1_60 : Cond.fieldLink RX1 88 "ClaqueRow$Seat" "hissed" "Z" ∈ zAll := zin1 (List.mem_of_getElem? (i := 60) rfl)
theorem zm1_61 : Cond.fieldLink RX1 92 "ClaqueRow$Seat" "hand" "LClaqueRow$Hand;" ∈ zAll := zin1 (List.mem_of_getElem? (i := 61) rfl)
theorem zm1_62 : Cond.fieldLink RX1 100 "ClaqueRow$Seat" "noise" "I" ∈ zAll := zin1 (List.mem_of_getElem? (i := 62) rfl)
theorem zm1_63 : Cond.methodLink RX1 71 yX3_seatOrNull ∈ zAll := zin1 (List.mem_of_getElem? (i := 63) rfl)
theorem zm1_64 : Cond.methodLink RX1 81 yX3_around ∈ zAll := zin1 (List.mem_of_getElem? (i := 64) rfl)
theorem zm1_65 : Cond.instanceMethod yX3_around ∈ zAll := zin1 (List.mem_of_getElem? (i := 65) rfl)
theorem zm1_66 : Cond.selects RX3 yX3_around yX3_around ∈ zAll := zin1 (List.mem_of_getElem? (i := 66) rfl)
theorem zm1_67 : Cond.methodLink RX1 85 yX4_soundAsPayer ∈ zAll := zin1 (List.mem_of_getElem? (i := 67) rfl)
theorem zm1_68 : Cond.instanceMethod yX4_soundAsPayer ∈ zAll := zin1 (List.mem_of_getElem? (i := 68) rfl)
theorem zm1_69 : Cond.selects RX4 yX4_soundAsPayer yX4_soundAsPayer ∈ zAll := zin1 (List.mem_of_getElem? (i := 69) rfl)
theorem zm2_0 : Cond.methodLink RX1 96 yX1_noiseOf ∈ zAll := zin2 (List.mem_of_getElem? (i := 0) rfl)
theorem zm2_1 : Cond.instanceMethod yX1_noiseOf ∈ zAll := zin2 (List.mem_of_getElem? (i := 1) rfl)
theorem zm2_2 : Cond.selects RX1 yX1_noiseOf yX1_noiseOf ∈ zAll := zin2 (List.mem_of_getElem? (i := 2) rfl)
theorem zm2_3 : Cond.code yX1_soundSeat cX1_soundSeat 5 none ∈ zAll := zin2 (List.mem_of_getElem? (i := 3) rfl)
theorem zm2_4 : Cond.code yX3_noiseSum cX3_noiseSum 6 (some .int) ∈ zAll := zin2 (List.mem_of_getElem? (i := 4) rfl)
theorem zm2_5 : Cond.fieldLink RX3 43 "ClaqueRow$Seat" "noise" "I" ∈ zAll := zin2 (List.mem_of_getElem? (i := 5) rfl)
theorem zm2_6 : Cond.fieldLink RX1 151 "ClaqueRow$Cue" "tick" "I" ∈ zAll := zin2 (List.mem_of_getElem? (i := 6) rfl)
theorem zm2_7 : Cond.code yX1_lastBegunCue cX1_lastBegunCue 4 (some (.object "ClaqueRow$Cue")) ∈ zAll := zin2 (List.mem_of_getElem? (i := 7) rfl)
theorem zm2_8 : Cond.fieldLink RX1 144 "ClaqueRow$Cue" "singer" "LClaqueRow$Singer;" ∈ zAll := zin2 (List.mem_of_getElem? (i := 8) rfl)
theorem zm2_9 : Cond.fieldLink RX1 148 "ClaqueRow$Singer" "calls" "I" ∈ zAll := zin2 (List.mem_of_getElem? (i := 9) rfl)
theorem zm2_10 : Cond.methodLink RX1 140 yX1_lastBegunCue ∈ zAll := zin2 (List.mem_of_getElem? (i := 10) rfl)
theorem zm2_11 : Cond.instanceMethod yX1_lastBegunCue ∈ zAll := zin2 (List.mem_of_getElem? (i := 11) rfl)
theorem zm2_12 : Cond.selects RX1 yX1_lastBegunCue yX1_lastBegunCue ∈ zAll := zin2 (List.mem_of_getElem? (i := 12) rfl)
theorem zm2_13 : Cond.code yX1_hearNoise cX1_hearNoise 3 none ∈ zAll := zin2 (List.mem_of_getElem? (i := 13) rfl)
theorem zm2_14 : Cond.code yX3_countNoisy cX3_countNoisy 7 (some .int) ∈ zAll := zin2 (List.mem_of_getElem? (i := 14) rfl)
theorem zm2_15 : Cond.fieldLink RX3 50 "ClaqueRow$Seat" "who" "C" ∈ zAll := zin2 (List.mem_of_getElem? (i := 15) rfl)
theorem zm2_16 : Cond.methodLink RX1 154 yX0_lastTick ∈ zAll := zin2 (List.mem_of_getElem? (i := 16) rfl)
theorem zm2_17 : Cond.code yX1_judgeCues cX1_judgeCues 4 none ∈ zAll := zin2 (List.mem_of_getElem? (i := 17) rfl)
theorem zm2_18 : Cond.fieldLink RX1 45 "ClaqueRow$House" "rows" "I" ∈ zAll := zin2 (List.mem_of_getElem? (i := 18) rfl)
theorem zm2_19 : Cond.fieldLink RX1 48 "ClaqueRow$House" "columns" "I" ∈ zAll := zin2 (List.mem_of_getElem? (i := 19) rfl)
theorem zm2_20 : Cond.methodLink RX1 40 yX3_keepTickAhead ∈ zAll := zin2 (List.mem_of_getElem? (i := 20) rfl)
theorem zm2_21 : Cond.instanceMethod yX3_keepTickAhead ∈ zAll := zin2 (List.mem_of_getElem? (i := 21) rfl)
theorem zm2_22 : Cond.selects RX3 yX3_keepTickAhead yX3_keepTickAhead ∈ zAll := zin2 (List.mem_of_getElem? (i := 22) rfl)
theorem zm2_23 : Cond.methodLink RX1 51 yX1_soundSeat ∈ zAll := zin2 (List.mem_of_getElem? (i := 23) rfl)
theorem zm2_24 : Cond.instanceMethod yX1_soundSeat ∈ zAll := zin2 (List.mem_of_getElem? (i := 24) rfl)
theorem zm2_25 : Cond.selects RX1 yX1_soundSeat yX1_soundSeat ∈ zAll := zin2 (List.mem_of_getElem? (i := 25) rfl)
theorem zm2_26 : Cond.methodLink RX1 55 yX3_noiseSum ∈ zAll := zin2 (List.mem_of_getElem? (i := 26) rfl)
theorem zm2_27 : Cond.instanceMethod yX3_noiseSum ∈ zAll := zin2 (List.mem_of_getElem? (i := 27) rfl)
theorem zm2_28 : Cond.selects RX3 yX3_noiseSum yX3_noiseSum ∈ zAll := zin2 (List.mem_of_getElem? (i := 28) rfl)
theorem zm2_29 : Cond.methodLink RX1 59 yX1_hearNoise ∈ zAll := zin2 (List.mem_of_getElem? (i := 29) rfl)
theorem zm2_30 : Cond.instanceMethod yX1_hearNoise ∈ zAll := zin2 (List.mem_of_getElem? (i := 30) rfl)
theorem zm2_31 : Cond.selects RX1 yX1_hearNoise yX1_hearNoise ∈ zAll := zin2 (List.mem_of_getElem? (i := 31) rfl)
theorem zm2_32 : Cond.methodLink RX1 63 yX3_countNoisy ∈ zAll := zin2 (List.mem_of_getElem? (i := 32) rfl)
theorem zm2_33 : Cond.instanceMethod yX3_countNoisy ∈ zAll := zin2 (List.mem_of_getElem? (i := 33) rfl)
theorem zm2_34 : Cond.selects RX3 yX3_countNoisy yX3_countNoisy ∈ zAll := zin2 (List.mem_of_getElem? (i := 34) rfl)
theorem zm2_35 : Cond.methodLink RX1 67 yX1_judgeCues ∈ zAll := zin2 (List.mem_of_getElem? (i := 35) rfl)
theorem zm2_36 : Cond.instanceMethod yX1_judgeCues ∈ zAll := zin2 (List.mem_of_getElem? (i := 36) rfl)
theorem zm2_37 : Cond.selects RX1 yX1_judgeCues yX1_judgeCues ∈ zAll := zin2 (List.mem_of_getElem? (i := 37) rfl)
theorem zm2_38 : Cond.code yX1_passTick cX1_passTick 4 none ∈ zAll := zin2 (List.mem_of_getElem? (i := 38) rfl)
theorem zm2_39 : Cond.code yX1_hasBegunCueFor cX1_hasBegunCueFor 4 (some .boolean) ∈ zAll := zin2 (List.mem_of_getElem? (i := 39) rfl)
theorem zm2_40 : Cond.code yX2_init cX2_init 5 none ∈ zAll := zin2 (List.mem_of_getElem? (i := 40) rfl)
theorem zm2_41 : Cond.methodLink RX2 3 objectInit ∈ zAll := zin2 (List.mem_of_getElem? (i := 41) rfl)
theorem zm2_42 : Cond.fieldLink RX2 9 "ClaqueRow$Hand" "money" "I" ∈ zAll := zin2 (List.mem_of_getElem? (i := 42) rfl)
theorem zm2_43 : Cond.fieldLink RX2 15 "ClaqueRow$Hand" "seat" "LClaqueRow$Seat;" ∈ zAll := zin2 (List.mem_of_getElem? (i := 43) rfl)
theorem zm2_44 : Cond.fieldLink RX2 23 "ClaqueRow$Hand" "strength" "I" ∈ zAll := zin2 (List.mem_of_getElem? (i := 44) rfl)
theorem zm2_45 : Cond.fieldLink RX2 26 "ClaqueRow$Hand" "rank" "I" ∈ zAll := zin2 (List.mem_of_getElem? (i := 45) rfl)
theorem zm2_46 : Cond.fieldLink RX2 29 "ClaqueRow$Hand" "price" "I" ∈ zAll := zin2 (List.mem_of_getElem? (i := 46) rfl)
theorem zm2_47 : Cond.code yX2_parts cX2_parts 1 (some .int) ∈ zAll := zin2 (List.mem_of_getElem? (i := 47) rfl)
theorem zm2_48 : Cond.code yX4_init cX4_init 1 none ∈ zAll := zin2 (List.mem_of_getElem? (i := 48) rfl)
theorem zm2_49 : Cond.methodLink RX4 3 objectInit ∈ zAll := zin2 (List.mem_of_getElem? (i := 49) rfl)
theorem zm2_50 : Cond.fieldLink RX4 9 "ClaqueRow$Seat" "who" "C" ∈ zAll := zin2 (List.mem_of_getElem? (i := 50) rfl)
theorem zm2_51 : Cond.fieldLink RX4 19 "ClaqueRow$Seat" "hand" "LClaqueRow$Hand;" ∈ zAll := zin2 (List.mem_of_getElem? (i := 51) rfl)
theorem zm2_52 : Cond.code yX3_init cX3_init 2 none ∈ zAll := zin2 (List.mem_of_getElem? (i := 52) rfl)
theorem zm2_53 : Cond.methodLink RX3 3 objectInit ∈ zAll := zin2 (List.mem_of_getElem? (i := 53) rfl)
theorem zm2_54 : Cond.classLink RX3 9 RX4 ∈ zAll := zin2 (List.mem_of_getElem? (i := 54) rfl)
theorem zm2_55 : Cond.instantiable RX4 9 ∈ zAll := zin2 (List.mem_of_getElem? (i := 55) rfl)
theorem zm2_56 : Cond.instanceMethod yX4_init ∈ zAll := zin2 (List.mem_of_getElem? (i := 56) rfl)
theorem zm2_57 : Cond.code yX4_forgetEvening cX4_forgetEvening 1 none ∈ zAll := zin2 (List.mem_of_getElem? (i := 57) rfl)
theorem zm2_58 : Cond.code yX4_take cX4_take 3 (some .char) ∈ zAll := zin2 (List.mem_of_getElem? (i := 58) rfl)
theorem zm2_59 : Cond.fieldLink RX4 42 "ClaqueRow$Hand" "seat" "LClaqueRow$Seat;" ∈ zAll := zin2 (List.mem_of_getElem? (i := 59) rfl)
theorem zm2_60 : Cond.methodLink RX4 48 yX4_forgetEvening ∈ zAll := zin2 (List.mem_of_getElem? (i := 60) rfl)
theorem zm2_61 : Cond.instanceMethod yX4_forgetEvening ∈ zAll := zin2 (List.mem_of_getElem? (i := 61) rfl)
theorem zm2_62 : Cond.selects RX4 yX4_forgetEvening yX4_forgetEvening ∈ zAll := zin2 (List.mem_of_getElem? (i := 62) rfl)
theorem zm2_63 : Cond.code yX3_build cX3_build 7 none ∈ zAll := zin2 (List.mem_of_getElem? (i := 63) rfl)
theorem zm2_64 : Cond.methodLink RX3 25 yX4_take ∈ zAll := zin2 (List.mem_of_getElem? (i := 64) rfl)
theorem zm2_65 : Cond.instanceMethod yX4_take ∈ zAll := zin2 (List.mem_of_getElem? (i := 65) rfl)
theorem zm2_66 : Cond.selects RX4 yX4_take yX4_take ∈ zAll := zin2 (List.mem_of_getElem? (i := 66) rfl)
theorem zm2_67 : Cond.code yX3_forgetEvening cX3_forgetEvening 5 none ∈ zAll := zin2 (List.mem_of_getElem? (i := 67) rfl)
theorem zm2_68 : Cond.methodLink RX3 29 yX4_forgetEvening ∈ zAll := zin2 (List.mem_of_getElem? (i := 68) rfl)
theorem zm2_69 : Cond.code yX3_countJoined cX3_countJoined 6 (some .int) ∈ zAll := zin2 (List.mem_of_getElem? (i := 69) rfl)
theorem zm3_0 : Cond.fieldLink RX3 46 "ClaqueRow$Seat" "joined" "Z" ∈ zAll := zin3 (List.mem_of_getElem? (i := 0) rfl)
theorem zm3_1 : Cond.code yX3_countSeated cX3_countSeated 7 (some .int) ∈ zAll := zin3 (List.mem_of_getElem? (i := 1) rfl)
theorem zm3_2 : Cond.code yX4_isInOrder cX4_isInOrder 2 (some .boolean) ∈ zAll := zin3 (List.mem_of_getElem? (i := 2) rfl)
theorem zm3_3 : Cond.code yX3_isInOrder cX3_isInOrder 5 (some .boolean) ∈ zAll := zin3 (List.mem_of_getElem? (i := 3) rfl)
theorem zm3_4 : Cond.methodLink RX3 54 yX4_isInOrder ∈ zAll := zin3 (List.mem_of_getElem? (i := 4) rfl)
theorem zm3_5 : Cond.instanceMethod yX4_isInOrder ∈ zAll := zin3 (List.mem_of_getElem? (i := 5) rfl)
theorem zm3_6 : Cond.selects RX4 yX4_isInOrder yX4_isInOrder ∈ zAll := zin3 (List.mem_of_getElem? (i := 6) rfl)
theorem zm3_7 : Cond.code yX5_init cX5_init 3 none ∈ zAll := zin3 (List.mem_of_getElem? (i := 7) rfl)
theorem zm3_8 : Cond.methodLink RX5 1 objectInit ∈ zAll := zin3 (List.mem_of_getElem? (i := 8) rfl)
theorem zm3_9 : Cond.fieldLink RX5 7 "ClaqueRow$Singer" "calls" "I" ∈ zAll := zin3 (List.mem_of_getElem? (i := 9) rfl)
theorem zm3_10 : Cond.fieldLink RX5 13 "ClaqueRow$Singer" "owed" "I" ∈ zAll := zin3 (List.mem_of_getElem? (i := 10) rfl)
theorem zm3_11 : Cond.fieldLink RX5 16 "ClaqueRow$Singer" "night" "I" ∈ zAll := zin3 (List.mem_of_getElem? (i := 11) rfl)
theorem zm3_12 : Cond.fieldLink RX5 19 "ClaqueRow$Singer" "perCall" "I" ∈ zAll := zin3 (List.mem_of_getElem? (i := 12) rfl)
theorem zm3_13 : Cond.code yX6_init cX6_init 1 none ∈ zAll := zin3 (List.mem_of_getElem? (i := 13) rfl)
theorem zm3_14 : Cond.methodLink RX6 3 objectInit ∈ zAll := zin3 (List.mem_of_getElem? (i := 14) rfl)
theorem zm3_15 : Cond.classLink RX6 9 RJx4a65c ∈ zAll := zin3 (List.mem_of_getElem? (i := 15) rfl)
theorem zm3_16 : Cond.fieldLink RX6 12 "ClaqueRow$Troupe" "hands" "Ljava/util/ArrayList;" ∈ zAll := zin3 (List.mem_of_getElem? (i := 16) rfl)
theorem zm3_17 : Cond.methodLink RX6 11 yJx4a65c_init_da8c8 ∈ zAll := zin3 (List.mem_of_getElem? (i := 17) rfl)
theorem zm3_18 : Cond.code yX6_holds cX6_holds 2 (some .boolean) ∈ zAll := zin3 (List.mem_of_getElem? (i := 18) rfl)
theorem zm3_19 : Cond.code yX6_cutShare cX6_cutShare 3 (some .int) ∈ zAll := zin3 (List.mem_of_getElem? (i := 19) rfl)
theorem zm3_20 : Cond.classLink RX6 26 "ClaqueRow$Hand" ∈ zAll := zin3 (List.mem_of_getElem? (i := 20) rfl)
theorem zm3_21 : Cond.fieldLink RX6 35 "ClaqueRow$Hand" "money" "I" ∈ zAll := zin3 (List.mem_of_getElem? (i := 21) rfl)
theorem zm3_22 : Cond.methodLink RX6 18 yJx4a65c_size_8abf5 ∈ zAll := zin3 (List.mem_of_getElem? (i := 22) rfl)
theorem zm3_23 : Cond.methodLink RX6 22 yJx4a65c_get_915e3 ∈ zAll := zin3 (List.mem_of_getElem? (i := 23) rfl)
theorem zm3_24 : Cond.methodLink RX6 28 yX2_parts ∈ zAll := zin3 (List.mem_of_getElem? (i := 24) rfl)
theorem zm3_25 : Cond.instanceMethod yX2_parts ∈ zAll := zin3 (List.mem_of_getElem? (i := 25) rfl)
theorem zm3_26 : Cond.selects RX2 yX2_parts yX2_parts ∈ zAll := zin3 (List.mem_of_getElem? (i := 26) rfl)
theorem zm3_27 : Cond.methodLink RX6 31 yX6_cutShare ∈ zAll := zin3 (List.mem_of_getElem? (i := 27) rfl)
theorem zm3_28 : Cond.static yX6_cutShare ∈ zAll := zin3 (List.mem_of_getElem? (i := 28) rfl)
theorem zm3_29 : Cond.initialized RX6 ∈ zAll := zin3 (List.mem_of_getElem? (i := 29) rfl)
theorem zm3_30 : Cond.code yX6_shareOut cX6_shareOut 7 (some .int) ∈ zAll := zin3 (List.mem_of_getElem? (i := 30) rfl)
theorem zm3_31 : Cond.fieldLink RX6 53 "ClaqueRow$Hand" "strength" "I" ∈ zAll := zin3 (List.mem_of_getElem? (i := 31) rfl)
theorem zm3_32 : Cond.methodLink RX6 47 yX6_holds ∈ zAll := zin3 (List.mem_of_getElem? (i := 32) rfl)
theorem zm3_33 : Cond.static yX6_holds ∈ zAll := zin3 (List.mem_of_getElem? (i := 33) rfl)
theorem zm3_34 : Cond.code yX6_strengthOf cX6_strengthOf 4 (some .int) ∈ zAll := zin3 (List.mem_of_getElem? (i := 34) rfl)
theorem zm3_35 : Cond.fieldLink RX6 50 "ClaqueRow$Hand" "price" "I" ∈ zAll := zin3 (List.mem_of_getElem? (i := 35) rfl)
theorem zm3_36 : Cond.code yX6_priceOf cX6_priceOf 4 (some .int) ∈ zAll := zin3 (List.mem_of_getElem? (i := 36) rfl)
theorem zm3_37 : Cond.code yJ6_bitCount_0f7a4 cJ6_bitCount_0f7a4 1 (some .int) ∈ zAll := zin3 (List.mem_of_getElem? (i := 37) rfl)
theorem zm3_38 : Cond.constant RJ6 265 (1431655765) ∈ zAll := zin3 (List.mem_of_getElem? (i := 38) rfl)
theorem zm3_39 : Cond.constant RJ6 266 (858993459) ∈ zAll := zin3 (List.mem_of_getElem? (i := 39) rfl)
theorem zm3_40 : Cond.constant RJ6 267 (252645135) ∈ zAll := zin3 (List.mem_of_getElem? (i := 40) rfl)
theorem zm3_41 : Cond.methodLink RX6 56 yX6_priceOf ∈ zAll := zin3 (List.mem_of_getElem? (i := 41) rfl)
theorem zm3_42 : Cond.instanceMethod yX6_priceOf ∈ zAll := zin3 (List.mem_of_getElem? (i := 42) rfl)
theorem zm3_43 : Cond.selects RX6 yX6_priceOf yX6_priceOf ∈ zAll := zin3 (List.mem_of_getElem? (i := 43) rfl)
theorem zm3_44 : Cond.methodLink RX6 59 yJ6_bitCount_0f7a4 ∈ zAll := zin3 (List.mem_of_getElem? (i := 44) rfl)
theorem zm3_45 : Cond.static yJ6_bitCount_0f7a4 ∈ zAll := zin3 (List.mem_of_getElem? (i := 45) rfl)
theorem zm3_46 : Cond.initialized RJ6 ∈ zAll := zin3 (List.mem_of_getElem? (i := 46) rfl)
theorem zm3_47 : Cond.code yX6_isBetter cX6_isBetter 8 (some .boolean) ∈ zAll := zin3 (List.mem_of_getElem? (i := 47) rfl)
theorem zm3_48 : Cond.methodLink RX6 39 yX6_strengthOf ∈ zAll := zin3 (List.mem_of_getElem? (i := 48) rfl)
theorem zm3_49 : Cond.instanceMethod yX6_strengthOf ∈ zAll := zin3 (List.mem_of_getElem? (i := 49) rfl)
theorem zm3_50 : Cond.selects RX6 yX6_strengthOf yX6_strengthOf ∈ zAll := zin3 (List.mem_of_getElem? (i := 50) rfl)
theorem zm3_51 : Cond.methodLink RX6 43 yX6_isBetter ∈ zAll := zin3 (List.mem_of_getElem? (i := 51) rfl)
theorem zm3_52 : Cond.instanceMethod yX6_isBetter ∈ zAll := zin3 (List.mem_of_getElem? (i := 52) rfl)
theorem zm3_53 : Cond.selects RX6 yX6_isBetter yX6_isBetter ∈ zAll := zin3 (List.mem_of_getElem? (i := 53) rfl)
theorem zm3_54 : Cond.code yX6_cheapestPlan cX6_cheapestPlan 5 (some .int) ∈ zAll := zin3 (List.mem_of_getElem? (i := 54) rfl)
theorem zm3_55 : Cond.fieldLink RX6 64 "ClaqueRow$Hand" "seat" "LClaqueRow$Seat;" ∈ zAll := zin3 (List.mem_of_getElem? (i := 55) rfl)
theorem zm3_56 : Cond.fieldLink RX6 68 "ClaqueRow$Seat" "hand" "LClaqueRow$Hand;" ∈ zAll := zin3 (List.mem_of_getElem? (i := 56) rfl)
theorem zm3_57 : Cond.code yX6_isInOrder cX6_isInOrder 3 (some .boolean) ∈ zAll := zin3 (List.mem_of_getElem? (i := 57) rfl)
theorem zm3_58 : Cond.methodLink RX7 1 objectInit ∈ zAll := zin3 (List.mem_of_getElem? (i := 58) rfl)
theorem zm3_59 : Cond.classLink RX7 7 RX3 ∈ zAll := zin3 (List.mem_of_getElem? (i := 59) rfl)
theorem zm3_60 : Cond.instantiable RX3 3 ∈ zAll := zin3 (List.mem_of_getElem? (i := 60) rfl)
theorem zm3_61 : Cond.fieldLink RX7 10 "ClaqueRow" "house" "LClaqueRow$House;" ∈ zAll := zin3 (List.mem_of_getElem? (i := 61) rfl)
theorem zm3_62 : Cond.classLink RX7 16 RX6 ∈ zAll := zin3 (List.mem_of_getElem? (i := 62) rfl)
theorem zm3_63 : Cond.instantiable RX6 1 ∈ zAll := zin3 (List.mem_of_getElem? (i := 63) rfl)
theorem zm3_64 : Cond.fieldLink RX7 19 "ClaqueRow" "troupe" "LClaqueRow$Troupe;" ∈ zAll := zin3 (List.mem_of_getElem? (i := 64) rfl)
theorem zm3_65 : Cond.classLink RX7 23 RJx4a65c ∈ zAll := zin3 (List.mem_of_getElem? (i := 65) rfl)
theorem zm3_66 : Cond.fieldLink RX7 26 "ClaqueRow" "singers" "Ljava/util/ArrayList;" ∈ zAll := zin3 (List.mem_of_getElem? (i := 66) rfl)
theorem zm3_67 : Cond.classLink RX7 30 RX1 ∈ zAll := zin3 (List.mem_of_getElem? (i := 67) rfl)
theorem zm3_68 : Cond.instantiable RX1 7 ∈ zAll := zin3 (List.mem_of_getElem? (i := 68) rfl)
theorem zm3_69 : Cond.fieldLink RX7 33 "ClaqueRow" "evening" "LClaqueRow$Evening;" ∈ zAll := zin3 (List.mem_of_getElem? (i := 69) rfl)
theorem zm4_0 : Cond.fieldLink RX7 37 "ClaqueRow" "purse" "I" ∈ zAll := zin4 (List.mem_of_getElem? (i := 0) rfl)
theorem zm4_1 : Cond.fieldLink RX7 41 "ClaqueRow" "chiefsMoney" "I" ∈ zAll := zin4 (List.mem_of_getElem? (i := 1) rfl)
theorem zm4_2 : Cond.methodLink RX7 9 yX3_init ∈ zAll := zin4 (List.mem_of_getElem? (i := 2) rfl)
theorem zm4_3 : Cond.instanceMethod yX3_init ∈ zAll := zin4 (List.mem_of_getElem? (i := 3) rfl)
theorem zm4_4 : Cond.instanceMethod yX6_init ∈ zAll := zin4 (List.mem_of_getElem? (i := 4) rfl)
theorem zm4_5 : Cond.methodLink RX7 25 yJx4a65c_init_da8c8 ∈ zAll := zin4 (List.mem_of_getElem? (i := 5) rfl)
theorem zm4_6 : Cond.instanceMethod yX1_init ∈ zAll := zin4 (List.mem_of_getElem? (i := 6) rfl)
theorem zm4_7 : Cond.code yX7_init cX7_init 1 none ∈ zAll := zin4 (List.mem_of_getElem? (i := 7) rfl)
theorem zm4_8 : Cond.code yX7_checkRange cX7_checkRange 3 none ∈ zAll := zin4 (List.mem_of_getElem? (i := 8) rfl)
theorem zm4_9 : Cond.classLink RX7 249 "java/lang/IllegalArgumentException" ∈ zAll := zin4 (List.mem_of_getElem? (i := 9) rfl)
theorem zm4_10 : Cond.initialized "java/lang/IllegalArgumentException" ∈ zAll := zin4 (List.mem_of_getElem? (i := 10) rfl)
theorem zm4_11 : Cond.classLink RX7 118 "ClaqueRow$Singer" ∈ zAll := zin4 (List.mem_of_getElem? (i := 11) rfl)
theorem zm4_12 : Cond.fieldLink RX7 168 "ClaqueRow$Singer" "calls" "I" ∈ zAll := zin4 (List.mem_of_getElem? (i := 12) rfl)
theorem zm4_13 : Cond.methodLink RX7 273 yX1_begin ∈ zAll := zin4 (List.mem_of_getElem? (i := 13) rfl)
theorem zm4_14 : Cond.instanceMethod yX1_begin ∈ zAll := zin4 (List.mem_of_getElem? (i := 14) rfl)
theorem zm4_15 : Cond.selects RX1 yX1_begin yX1_begin ∈ zAll := zin4 (List.mem_of_getElem? (i := 15) rfl)
theorem zm4_16 : Cond.methodLink RX7 100 yJx4a65c_size_8abf5 ∈ zAll := zin4 (List.mem_of_getElem? (i := 16) rfl)
theorem zm4_17 : Cond.methodLink RX7 179 yJx4a65c_get_915e3 ∈ zAll := zin4 (List.mem_of_getElem? (i := 17) rfl)
theorem zm4_18 : Cond.code yX7_beginEvening cX7_beginEvening 2 none ∈ zAll := zin4 (List.mem_of_getElem? (i := 18) rfl)
theorem zm4_19 : Cond.methodLink RX7 44 yX7_checkRange ∈ zAll := zin4 (List.mem_of_getElem? (i := 19) rfl)
theorem zm4_20 : Cond.static yX7_checkRange ∈ zAll := zin4 (List.mem_of_getElem? (i := 20) rfl)
theorem zm4_21 : Cond.initialized RX7 ∈ zAll := zin4 (List.mem_of_getElem? (i := 21) rfl)
theorem zm4_22 : Cond.methodLink RX7 48 yX3_build ∈ zAll := zin4 (List.mem_of_getElem? (i := 22) rfl)
theorem zm4_23 : Cond.instanceMethod yX3_build ∈ zAll := zin4 (List.mem_of_getElem? (i := 23) rfl)
theorem zm4_24 : Cond.selects RX3 yX3_build yX3_build ∈ zAll := zin4 (List.mem_of_getElem? (i := 24) rfl)
theorem zm4_25 : Cond.methodLink RX7 52 yX7_beginEvening ∈ zAll := zin4 (List.mem_of_getElem? (i := 25) rfl)
theorem zm4_26 : Cond.instanceMethod yX7_beginEvening ∈ zAll := zin4 (List.mem_of_getElem? (i := 26) rfl)
theorem zm4_27 : Cond.selects RX7 yX7_beginEvening yX7_beginEvening ∈ zAll := zin4 (List.mem_of_getElem? (i := 27) rfl)
theorem zm4_28 : Cond.code yX7_newHouse cX7_newHouse 3 (some .int) ∈ zAll := zin4 (List.mem_of_getElem? (i := 28) rfl)
theorem zm4_29 : Cond.code yX7_existingSeat cX7_existingSeat 4 (some (.object "ClaqueRow$Seat")) ∈ zAll := zin4 (List.mem_of_getElem? (i := 29) rfl)
theorem zm4_30 : Cond.classLink RX7 256 "java/lang/IndexOutOfBoundsException" ∈ zAll := zin4 (List.mem_of_getElem? (i := 30) rfl)
theorem zm4_31 : Cond.initialized "java/lang/IndexOutOfBoundsException" ∈ zAll := zin4 (List.mem_of_getElem? (i := 31) rfl)
theorem zm4_32 : Cond.methodLink RX7 229 yX3_seatOrNull ∈ zAll := zin4 (List.mem_of_getElem? (i := 32) rfl)
theorem zm4_33 : Cond.fieldLink RX7 65 "ClaqueRow$Seat" "threshold" "I" ∈ zAll := zin4 (List.mem_of_getElem? (i := 33) rfl)
theorem zm4_34 : Cond.methodLink RX7 55 yX7_existingSeat ∈ zAll := zin4 (List.mem_of_getElem? (i := 34) rfl)
theorem zm4_35 : Cond.instanceMethod yX7_existingSeat ∈ zAll := zin4 (List.mem_of_getElem? (i := 35) rfl)
theorem zm4_36 : Cond.selects RX7 yX7_existingSeat yX7_existingSeat ∈ zAll := zin4 (List.mem_of_getElem? (i := 36) rfl)
theorem zm4_37 : Cond.methodLink RX7 59 yX4_take ∈ zAll := zin4 (List.mem_of_getElem? (i := 37) rfl)
theorem zm4_38 : Cond.code yX7_seatPayer cX7_seatPayer 6 (some .char) ∈ zAll := zin4 (List.mem_of_getElem? (i := 38) rfl)
theorem zm4_39 : Cond.code yX7_seatRival cX7_seatRival 3 (some .char) ∈ zAll := zin4 (List.mem_of_getElem? (i := 39) rfl)
theorem zm4_40 : Cond.fieldLink RX7 97 "ClaqueRow$Troupe" "hands" "Ljava/util/ArrayList;" ∈ zAll := zin4 (List.mem_of_getElem? (i := 40) rfl)
theorem zm4_41 : Cond.classLink RX7 73 "ClaqueRow$Hand" ∈ zAll := zin4 (List.mem_of_getElem? (i := 41) rfl)
theorem zm4_42 : Cond.code yX7_existingHand cX7_existingHand 2 (some (.object "ClaqueRow$Hand")) ∈ zAll := zin4 (List.mem_of_getElem? (i := 42) rfl)
theorem zm4_43 : Cond.classLink RX7 78 "java/lang/UnsupportedOperationException" ∈ zAll := zin4 (List.mem_of_getElem? (i := 43) rfl)
theorem zm4_44 : Cond.initialized "java/lang/UnsupportedOperationException" ∈ zAll := zin4 (List.mem_of_getElem? (i := 44) rfl)
theorem zm4_45 : Cond.fieldLink RX7 72 "ClaqueRow$Hand" "seat" "LClaqueRow$Seat;" ∈ zAll := zin4 (List.mem_of_getElem? (i := 45) rfl)
theorem zm4_46 : Cond.fieldLink RX7 85 "ClaqueRow$Seat" "hand" "LClaqueRow$Hand;" ∈ zAll := zin4 (List.mem_of_getElem? (i := 46) rfl)
theorem zm4_47 : Cond.methodLink RX7 68 yX7_existingHand ∈ zAll := zin4 (List.mem_of_getElem? (i := 47) rfl)
theorem zm4_48 : Cond.instanceMethod yX7_existingHand ∈ zAll := zin4 (List.mem_of_getElem? (i := 48) rfl)
theorem zm4_49 : Cond.selects RX7 yX7_existingHand yX7_existingHand ∈ zAll := zin4 (List.mem_of_getElem? (i := 49) rfl)
theorem zm4_50 : Cond.code yX7_seatHand cX7_seatHand 7 (some .char) ∈ zAll := zin4 (List.mem_of_getElem? (i := 50) rfl)
theorem zm4_51 : Cond.code yX7_clearSeat cX7_clearSeat 3 (some .char) ∈ zAll := zin4 (List.mem_of_getElem? (i := 51) rfl)
theorem zm4_52 : Cond.code yX7_seatAt cX7_seatAt 3 (some .char) ∈ zAll := zin4 (List.mem_of_getElem? (i := 52) rfl)
theorem zm4_53 : Cond.fieldLink RX7 89 "ClaqueRow$Seat" "who" "C" ∈ zAll := zin4 (List.mem_of_getElem? (i := 53) rfl)
theorem zm4_54 : Cond.code yX7_checkCueKind cX7_checkCueKind 1 none ∈ zAll := zin4 (List.mem_of_getElem? (i := 54) rfl)
theorem zm4_55 : Cond.code yJ8_hugeLength_7cf53 cJ8_hugeLength_7cf53 3 (some .int) ∈ zAll := zin4 (List.mem_of_getElem? (i := 55) rfl)
theorem zm4_56 : Cond.constant RJ8 200 (2147483639) ∈ zAll := zin4 (List.mem_of_getElem? (i := 56) rfl)
theorem zm4_57 : Cond.code yJ8_newLength_cabcc cJ8_newLength_cabcc 4 (some .int) ∈ zAll := zin4 (List.mem_of_getElem? (i := 57) rfl)
theorem zm4_58 : Cond.methodLink RJ8 194 Lib.Math.max.name ∈ zAll := zin4 (List.mem_of_getElem? (i := 58) rfl)
theorem zm4_59 : Cond.methodLink RJ8 201 yJ8_hugeLength_7cf53 ∈ zAll := zin4 (List.mem_of_getElem? (i := 59) rfl)
theorem zm4_60 : Cond.static yJ8_hugeLength_7cf53 ∈ zAll := zin4 (List.mem_of_getElem? (i := 60) rfl)
theorem zm4_61 : Cond.initialized RJ8 ∈ zAll := zin4 (List.mem_of_getElem? (i := 61) rfl)
theorem zm4_62 : Cond.code yJ7_copyOf_6403c cJ7_copyOf_6403c 4 (some (.array (.object "java/lang/Object"))) ∈ zAll := zin4 (List.mem_of_getElem? (i := 62) rfl)
theorem zm4_63 : Cond.classLink RJ7 110 "[Ljava/lang/Object;" ∈ zAll := zin4 (List.mem_of_getElem? (i := 63) rfl)
theorem zm4_64 : Cond.classLink RJ7 2 "java/lang/Object" ∈ zAll := zin4 (List.mem_of_getElem? (i := 64) rfl)
theorem zm4_65 : Cond.methodLink RJ7 304 Lib.Math.min.name ∈ zAll := zin4 (List.mem_of_getElem? (i := 65) rfl)
theorem zm4_66 : Cond.methodLink RJ7 150 arraycopyName ∈ zAll := zin4 (List.mem_of_getElem? (i := 66) rfl)
theorem zm4_67 : Cond.native arraycopyName ∈ zAll := zin4 (List.mem_of_getElem? (i := 67) rfl)
theorem zm4_68 : Cond.static arraycopyName ∈ zAll := zin4 (List.mem_of_getElem? (i := 68) rfl)
theorem zm4_69 : Cond.initialized "java/lang/System" ∈ zAll := zin4 (List.mem_of_getElem? (i := 69) rfl)
theorem zm5_0 : Cond.code yJ7_copyOf_1904c cJ7_copyOf_1904c 2 (some (.array (.object "java/lang/Object"))) ∈ zAll := zin5 (List.mem_of_getElem? (i := 0) rfl)
theorem zm5_1 : Cond.methodLink RJ7 86 ⟨"java/lang/Object", "getClass", "()Ljava/lang/Class;"⟩ ∈ zAll := zin5 (List.mem_of_getElem? (i := 1) rfl)
theorem zm5_2 : Cond.selects "[Ljava/lang/Object;" ⟨"java/lang/Object", "getClass", "()Ljava/lang/Class;"⟩ ⟨"java/lang/Object", "getClass", "()Ljava/lang/Class;"⟩ ∈ zAll := zin5 (List.mem_of_getElem? (i := 2) rfl)
theorem zm5_3 : Cond.instanceMethod ⟨"java/lang/Object", "getClass", "()Ljava/lang/Class;"⟩ ∈ zAll := zin5 (List.mem_of_getElem? (i := 3) rfl)
theorem zm5_4 : Cond.native ⟨"java/lang/Object", "getClass", "()Ljava/lang/Class;"⟩ ∈ zAll := zin5 (List.mem_of_getElem? (i := 4) rfl)
theorem zm5_5 : Cond.methodLink RJ7 300 yJ7_copyOf_6403c ∈ zAll := zin5 (List.mem_of_getElem? (i := 5) rfl)
theorem zm5_6 : Cond.static yJ7_copyOf_6403c ∈ zAll := zin5 (List.mem_of_getElem? (i := 6) rfl)
theorem zm5_7 : Cond.initialized RJ7 ∈ zAll := zin5 (List.mem_of_getElem? (i := 7) rfl)
theorem zm5_8 : Cond.methodLink RJx4a65c 79 Lib.Math.max.name ∈ zAll := zin5 (List.mem_of_getElem? (i := 8) rfl)
theorem zm5_9 : Cond.classLink RJx4a65c 7 "java/lang/Object" ∈ zAll := zin5 (List.mem_of_getElem? (i := 9) rfl)
theorem zm5_10 : Cond.methodLink RJx4a65c 73 yJ8_newLength_cabcc ∈ zAll := zin5 (List.mem_of_getElem? (i := 10) rfl)
theorem zm5_11 : Cond.static yJ8_newLength_cabcc ∈ zAll := zin5 (List.mem_of_getElem? (i := 11) rfl)
theorem zm5_12 : Cond.methodLink RJx4a65c 66 yJ7_copyOf_1904c ∈ zAll := zin5 (List.mem_of_getElem? (i := 12) rfl)
theorem zm5_13 : Cond.static yJ7_copyOf_1904c ∈ zAll := zin5 (List.mem_of_getElem? (i := 13) rfl)
theorem zm5_14 : Cond.code yJx4a65c_grow_92f84 cJx4a65c_grow_92f84 4 (some (.array (.object "java/lang/Object"))) ∈ zAll := zin5 (List.mem_of_getElem? (i := 14) rfl)
theorem zm5_15 : Cond.methodLink RJx4a65c 69 yJx4a65c_grow_92f84 ∈ zAll := zin5 (List.mem_of_getElem? (i := 15) rfl)
theorem zm5_16 : Cond.instanceMethod yJx4a65c_grow_92f84 ∈ zAll := zin5 (List.mem_of_getElem? (i := 16) rfl)
theorem zm5_17 : Cond.selects RJx4a65c yJx4a65c_grow_92f84 yJx4a65c_grow_92f84 ∈ zAll := zin5 (List.mem_of_getElem? (i := 17) rfl)
theorem zm5_18 : Cond.code yJx4a65c_grow_d5877 cJx4a65c_grow_d5877 1 (some (.array (.object "java/lang/Object"))) ∈ zAll := zin5 (List.mem_of_getElem? (i := 18) rfl)
theorem zm5_19 : Cond.methodLink RJx4a65c 129 yJx4a65c_grow_d5877 ∈ zAll := zin5 (List.mem_of_getElem? (i := 19) rfl)
theorem zm5_20 : Cond.instanceMethod yJx4a65c_grow_d5877 ∈ zAll := zin5 (List.mem_of_getElem? (i := 20) rfl)
theorem zm5_21 : Cond.selects RJx4a65c yJx4a65c_grow_d5877 yJx4a65c_grow_d5877 ∈ zAll := zin5 (List.mem_of_getElem? (i := 21) rfl)
theorem zm5_22 : Cond.code yJx4a65c_add_72be8 cJx4a65c_add_72be8 4 none ∈ zAll := zin5 (List.mem_of_getElem? (i := 22) rfl)
theorem zm5_23 : Cond.methodLink RJx4a65c 131 yJx4a65c_add_72be8 ∈ zAll := zin5 (List.mem_of_getElem? (i := 23) rfl)
theorem zm5_24 : Cond.instanceMethod yJx4a65c_add_72be8 ∈ zAll := zin5 (List.mem_of_getElem? (i := 24) rfl)
theorem zm5_25 : Cond.selects RJx4a65c yJx4a65c_add_72be8 yJx4a65c_add_72be8 ∈ zAll := zin5 (List.mem_of_getElem? (i := 25) rfl)
theorem zm5_26 : Cond.code yJx4a65c_add_9ea2d cJx4a65c_add_9ea2d 2 (some .boolean) ∈ zAll := zin5 (List.mem_of_getElem? (i := 26) rfl)
theorem zm5_27 : Cond.classLink RX7 104 "java/lang/IllegalStateException" ∈ zAll := zin5 (List.mem_of_getElem? (i := 27) rfl)
theorem zm5_28 : Cond.initialized "java/lang/IllegalStateException" ∈ zAll := zin5 (List.mem_of_getElem? (i := 28) rfl)
theorem zm5_29 : Cond.classLink RX7 73 RX2 ∈ zAll := zin5 (List.mem_of_getElem? (i := 29) rfl)
theorem zm5_30 : Cond.instantiable RX2 6 ∈ zAll := zin5 (List.mem_of_getElem? (i := 30) rfl)
theorem zm5_31 : Cond.methodLink RX7 93 yX7_checkCueKind ∈ zAll := zin5 (List.mem_of_getElem? (i := 31) rfl)
theorem zm5_32 : Cond.static yX7_checkCueKind ∈ zAll := zin5 (List.mem_of_getElem? (i := 32) rfl)
theorem zm5_33 : Cond.methodLink RX7 109 yX2_init ∈ zAll := zin5 (List.mem_of_getElem? (i := 33) rfl)
theorem zm5_34 : Cond.instanceMethod yX2_init ∈ zAll := zin5 (List.mem_of_getElem? (i := 34) rfl)
theorem zm5_35 : Cond.methodLink RX7 112 yJx4a65c_add_9ea2d ∈ zAll := zin5 (List.mem_of_getElem? (i := 35) rfl)
theorem zm5_36 : Cond.instanceMethod yJx4a65c_add_9ea2d ∈ zAll := zin5 (List.mem_of_getElem? (i := 36) rfl)
theorem zm5_37 : Cond.selects RJx4a65c yJx4a65c_add_9ea2d yJx4a65c_add_9ea2d ∈ zAll := zin5 (List.mem_of_getElem? (i := 37) rfl)
theorem zm5_38 : Cond.code yX7_addHand cX7_addHand 5 (some .int) ∈ zAll := zin5 (List.mem_of_getElem? (i := 38) rfl)
theorem zm5_39 : Cond.code yX7_isSeated cX7_isSeated 2 (some .boolean) ∈ zAll := zin5 (List.mem_of_getElem? (i := 39) rfl)
theorem zm5_40 : Cond.classLink RX7 118 RX5 ∈ zAll := zin5 (List.mem_of_getElem? (i := 40) rfl)
theorem zm5_41 : Cond.instantiable RX5 4 ∈ zAll := zin5 (List.mem_of_getElem? (i := 41) rfl)
theorem zm5_42 : Cond.initialized RX5 ∈ zAll := zin5 (List.mem_of_getElem? (i := 42) rfl)
theorem zm5_43 : Cond.methodLink RX7 120 yX5_init ∈ zAll := zin5 (List.mem_of_getElem? (i := 43) rfl)
theorem zm5_44 : Cond.instanceMethod yX5_init ∈ zAll := zin5 (List.mem_of_getElem? (i := 44) rfl)
theorem zm5_45 : Cond.code yX7_addSinger cX7_addSinger 3 (some .int) ∈ zAll := zin5 (List.mem_of_getElem? (i := 45) rfl)
theorem zm5_46 : Cond.code yX7_existingSinger cX7_existingSinger 2 (some (.object "ClaqueRow$Singer")) ∈ zAll := zin5 (List.mem_of_getElem? (i := 46) rfl)
theorem zm5_47 : Cond.fieldLink RX7 126 "ClaqueRow$Evening" "ticks" "I" ∈ zAll := zin5 (List.mem_of_getElem? (i := 47) rfl)
theorem zm5_48 : Cond.fieldLink RX7 131 "ClaqueRow$Evening" "cues" "Ljava/util/ArrayList;" ∈ zAll := zin5 (List.mem_of_getElem? (i := 48) rfl)
theorem zm5_49 : Cond.classLink RX7 136 RX0 ∈ zAll := zin5 (List.mem_of_getElem? (i := 49) rfl)
theorem zm5_50 : Cond.instantiable RX0 5 ∈ zAll := zin5 (List.mem_of_getElem? (i := 50) rfl)
theorem zm5_51 : Cond.methodLink RX7 122 yX7_existingSinger ∈ zAll := zin5 (List.mem_of_getElem? (i := 51) rfl)
theorem zm5_52 : Cond.instanceMethod yX7_existingSinger ∈ zAll := zin5 (List.mem_of_getElem? (i := 52) rfl)
theorem zm5_53 : Cond.selects RX7 yX7_existingSinger yX7_existingSinger ∈ zAll := zin5 (List.mem_of_getElem? (i := 53) rfl)
theorem zm5_54 : Cond.methodLink RX7 138 yX0_init ∈ zAll := zin5 (List.mem_of_getElem? (i := 54) rfl)
theorem zm5_55 : Cond.instanceMethod yX0_init ∈ zAll := zin5 (List.mem_of_getElem? (i := 55) rfl)
theorem zm5_56 : Cond.code yX7_addCue cX7_addCue 7 (some .int) ∈ zAll := zin5 (List.mem_of_getElem? (i := 56) rfl)
theorem zm5_57 : Cond.code yX7_setLevel cX7_setLevel 3 (some .int) ∈ zAll := zin5 (List.mem_of_getElem? (i := 57) rfl)
theorem zm5_58 : Cond.fieldLink RX7 141 "ClaqueRow$Evening" "level" "I" ∈ zAll := zin5 (List.mem_of_getElem? (i := 58) rfl)
theorem zm5_59 : Cond.code yX7_checkHouse cX7_checkHouse 1 none ∈ zAll := zin5 (List.mem_of_getElem? (i := 59) rfl)
theorem zm5_60 : Cond.fieldLink RX7 223 "ClaqueRow$House" "rows" "I" ∈ zAll := zin5 (List.mem_of_getElem? (i := 60) rfl)
theorem zm5_61 : Cond.methodLink RX7 144 yX7_checkHouse ∈ zAll := zin5 (List.mem_of_getElem? (i := 61) rfl)
theorem zm5_62 : Cond.instanceMethod yX7_checkHouse ∈ zAll := zin5 (List.mem_of_getElem? (i := 62) rfl)
theorem zm5_63 : Cond.selects RX7 yX7_checkHouse yX7_checkHouse ∈ zAll := zin5 (List.mem_of_getElem? (i := 63) rfl)
theorem zm5_64 : Cond.methodLink RX7 147 yX1_passTick ∈ zAll := zin5 (List.mem_of_getElem? (i := 64) rfl)
theorem zm5_65 : Cond.instanceMethod yX1_passTick ∈ zAll := zin5 (List.mem_of_getElem? (i := 65) rfl)
theorem zm5_66 : Cond.selects RX1 yX1_passTick yX1_passTick ∈ zAll := zin5 (List.mem_of_getElem? (i := 66) rfl)
theorem zm5_67 : Cond.code yX7_run cX7_run 3 (some .int) ∈ zAll := zin5 (List.mem_of_getElem? (i := 67) rfl)
theorem zm5_68 : Cond.code yX7_noiseAt cX7_noiseAt 3 (some .int) ∈ zAll := zin5 (List.mem_of_getElem? (i := 68) rfl)
theorem zm5_69 : Cond.fieldLink RX7 151 "ClaqueRow$Seat" "noise" "I" ∈ zAll := zin5 (List.mem_of_getElem? (i := 69) rfl)
theorem zm6_0 : Cond.code yX7_noise cX7_noise 1 (some .int) ∈ zAll := zin6 (List.mem_of_getElem? (i := 0) rfl)
theorem zm6_1 : Cond.methodLink RX7 154 yX3_noiseSum ∈ zAll := zin6 (List.mem_of_getElem? (i := 1) rfl)
theorem zm6_2 : Cond.code yX7_joining cX7_joining 1 (some .int) ∈ zAll := zin6 (List.mem_of_getElem? (i := 2) rfl)
theorem zm6_3 : Cond.methodLink RX7 157 yX3_countJoined ∈ zAll := zin6 (List.mem_of_getElem? (i := 3) rfl)
theorem zm6_4 : Cond.instanceMethod yX3_countJoined ∈ zAll := zin6 (List.mem_of_getElem? (i := 4) rfl)
theorem zm6_5 : Cond.selects RX3 yX3_countJoined yX3_countJoined ∈ zAll := zin6 (List.mem_of_getElem? (i := 5) rfl)
theorem zm6_6 : Cond.code yX7_hisses cX7_hisses 1 (some .int) ∈ zAll := zin6 (List.mem_of_getElem? (i := 6) rfl)
theorem zm6_7 : Cond.fieldLink RX7 160 "ClaqueRow$Evening" "hisses" "I" ∈ zAll := zin6 (List.mem_of_getElem? (i := 7) rfl)
theorem zm6_8 : Cond.methodLink RX7 165 yX4_tirednessNow ∈ zAll := zin6 (List.mem_of_getElem? (i := 8) rfl)
theorem zm6_9 : Cond.code yX7_tiredness cX7_tiredness 4 (some .int) ∈ zAll := zin6 (List.mem_of_getElem? (i := 9) rfl)
theorem zm6_10 : Cond.code yX7_callsOf cX7_callsOf 2 (some .int) ∈ zAll := zin6 (List.mem_of_getElem? (i := 10) rfl)
theorem zm6_11 : Cond.code yX7_calls cX7_calls 1 (some .int) ∈ zAll := zin6 (List.mem_of_getElem? (i := 11) rfl)
theorem zm6_12 : Cond.fieldLink RX7 171 "ClaqueRow$Evening" "calls" "I" ∈ zAll := zin6 (List.mem_of_getElem? (i := 12) rfl)
theorem zm6_13 : Cond.code yX7_suspicions cX7_suspicions 1 (some .int) ∈ zAll := zin6 (List.mem_of_getElem? (i := 13) rfl)
theorem zm6_14 : Cond.fieldLink RX7 172 "ClaqueRow$Evening" "suspicions" "I" ∈ zAll := zin6 (List.mem_of_getElem? (i := 14) rfl)
theorem zm6_15 : Cond.code yX7_areFoundOut cX7_areFoundOut 1 (some .boolean) ∈ zAll := zin6 (List.mem_of_getElem? (i := 15) rfl)
theorem zm6_16 : Cond.methodLink RX7 175 yX1_handsAreFoundOut ∈ zAll := zin6 (List.mem_of_getElem? (i := 16) rfl)
theorem zm6_17 : Cond.fieldLink RX7 280 "ClaqueRow$Singer" "night" "I" ∈ zAll := zin6 (List.mem_of_getElem? (i := 17) rfl)
theorem zm6_18 : Cond.fieldLink RX7 283 "ClaqueRow$Singer" "perCall" "I" ∈ zAll := zin6 (List.mem_of_getElem? (i := 18) rfl)
theorem zm6_19 : Cond.fieldLink RX7 191 "ClaqueRow$Singer" "owed" "I" ∈ zAll := zin6 (List.mem_of_getElem? (i := 19) rfl)
theorem zm6_20 : Cond.methodLink RX7 276 yX1_hasBegunCueFor ∈ zAll := zin6 (List.mem_of_getElem? (i := 20) rfl)
theorem zm6_21 : Cond.instanceMethod yX1_hasBegunCueFor ∈ zAll := zin6 (List.mem_of_getElem? (i := 21) rfl)
theorem zm6_22 : Cond.selects RX1 yX1_hasBegunCueFor yX1_hasBegunCueFor ∈ zAll := zin6 (List.mem_of_getElem? (i := 22) rfl)
theorem zm6_23 : Cond.code yX7_billFor cX7_billFor 3 (some .int) ∈ zAll := zin6 (List.mem_of_getElem? (i := 23) rfl)
theorem zm6_24 : Cond.methodLink RX7 183 yX7_billFor ∈ zAll := zin6 (List.mem_of_getElem? (i := 24) rfl)
theorem zm6_25 : Cond.instanceMethod yX7_billFor ∈ zAll := zin6 (List.mem_of_getElem? (i := 25) rfl)
theorem zm6_26 : Cond.selects RX7 yX7_billFor yX7_billFor ∈ zAll := zin6 (List.mem_of_getElem? (i := 26) rfl)
theorem zm6_27 : Cond.methodLink RX7 187 yX3_forgetEvening ∈ zAll := zin6 (List.mem_of_getElem? (i := 27) rfl)
theorem zm6_28 : Cond.instanceMethod yX3_forgetEvening ∈ zAll := zin6 (List.mem_of_getElem? (i := 28) rfl)
theorem zm6_29 : Cond.selects RX3 yX3_forgetEvening yX3_forgetEvening ∈ zAll := zin6 (List.mem_of_getElem? (i := 29) rfl)
theorem zm6_30 : Cond.code yX7_endEvening cX7_endEvening 3 (some .int) ∈ zAll := zin6 (List.mem_of_getElem? (i := 30) rfl)
theorem zm6_31 : Cond.constant RX7 190 (99999) ∈ zAll := zin6 (List.mem_of_getElem? (i := 31) rfl)
theorem zm6_32 : Cond.methodLink RX7 196 Lib.Math.min.name ∈ zAll := zin6 (List.mem_of_getElem? (i := 32) rfl)
theorem zm6_33 : Cond.code yX7_pay cX7_pay 5 (some .int) ∈ zAll := zin6 (List.mem_of_getElem? (i := 33) rfl)
theorem zm6_34 : Cond.code yX7_owed cX7_owed 2 (some .int) ∈ zAll := zin6 (List.mem_of_getElem? (i := 34) rfl)
theorem zm6_35 : Cond.code yX7_purse cX7_purse 1 (some .int) ∈ zAll := zin6 (List.mem_of_getElem? (i := 35) rfl)
theorem zm6_36 : Cond.methodLink RX7 204 yX6_shareOut ∈ zAll := zin6 (List.mem_of_getElem? (i := 36) rfl)
theorem zm6_37 : Cond.instanceMethod yX6_shareOut ∈ zAll := zin6 (List.mem_of_getElem? (i := 37) rfl)
theorem zm6_38 : Cond.selects RX6 yX6_shareOut yX6_shareOut ∈ zAll := zin6 (List.mem_of_getElem? (i := 38) rfl)
theorem zm6_39 : Cond.code yX7_share cX7_share 2 (some .int) ∈ zAll := zin6 (List.mem_of_getElem? (i := 39) rfl)
theorem zm6_40 : Cond.fieldLink RX7 208 "ClaqueRow$Hand" "money" "I" ∈ zAll := zin6 (List.mem_of_getElem? (i := 40) rfl)
theorem zm6_41 : Cond.code yX7_moneyOf cX7_moneyOf 2 (some .int) ∈ zAll := zin6 (List.mem_of_getElem? (i := 41) rfl)
theorem zm6_42 : Cond.code yX7_chiefs cX7_chiefs 1 (some .int) ∈ zAll := zin6 (List.mem_of_getElem? (i := 42) rfl)
theorem zm6_43 : Cond.classLink RX7 268 "java/util/NoSuchElementException" ∈ zAll := zin6 (List.mem_of_getElem? (i := 43) rfl)
theorem zm6_44 : Cond.initialized "java/util/NoSuchElementException" ∈ zAll := zin6 (List.mem_of_getElem? (i := 44) rfl)
theorem zm6_45 : Cond.methodLink RX7 265 yX6_cheapestPlan ∈ zAll := zin6 (List.mem_of_getElem? (i := 45) rfl)
theorem zm6_46 : Cond.instanceMethod yX6_cheapestPlan ∈ zAll := zin6 (List.mem_of_getElem? (i := 46) rfl)
theorem zm6_47 : Cond.selects RX6 yX6_cheapestPlan yX6_cheapestPlan ∈ zAll := zin6 (List.mem_of_getElem? (i := 47) rfl)
theorem zm6_48 : Cond.code yX7_existingPlan cX7_existingPlan 3 (some .int) ∈ zAll := zin6 (List.mem_of_getElem? (i := 48) rfl)
theorem zm6_49 : Cond.methodLink RX7 211 yX7_existingPlan ∈ zAll := zin6 (List.mem_of_getElem? (i := 49) rfl)
theorem zm6_50 : Cond.instanceMethod yX7_existingPlan ∈ zAll := zin6 (List.mem_of_getElem? (i := 50) rfl)
theorem zm6_51 : Cond.selects RX7 yX7_existingPlan yX7_existingPlan ∈ zAll := zin6 (List.mem_of_getElem? (i := 51) rfl)
theorem zm6_52 : Cond.methodLink RX7 214 yX6_priceOf ∈ zAll := zin6 (List.mem_of_getElem? (i := 52) rfl)
theorem zm6_53 : Cond.code yX7_planCost cX7_planCost 2 (some .int) ∈ zAll := zin6 (List.mem_of_getElem? (i := 53) rfl)
theorem zm6_54 : Cond.methodLink RX7 217 yX6_holds ∈ zAll := zin6 (List.mem_of_getElem? (i := 54) rfl)
theorem zm6_55 : Cond.code yX7_isPlanned cX7_isPlanned 3 (some .boolean) ∈ zAll := zin6 (List.mem_of_getElem? (i := 55) rfl)
theorem zm6_56 : Cond.constantLong RX7 221 (7) ∈ zAll := zin6 (List.mem_of_getElem? (i := 56) rfl)
theorem zm6_57 : Cond.fieldLink RX7 226 "ClaqueRow$House" "columns" "I" ∈ zAll := zin6 (List.mem_of_getElem? (i := 57) rfl)
theorem zm6_58 : Cond.constantLong RX7 232 (31) ∈ zAll := zin6 (List.mem_of_getElem? (i := 58) rfl)
theorem zm6_59 : Cond.code yX7_checksum cX7_checksum 6 (some .long) ∈ zAll := zin6 (List.mem_of_getElem? (i := 59) rfl)
theorem zm6_60 : Cond.code yX7_joiningShare cX7_joiningShare 2 (some .float) ∈ zAll := zin6 (List.mem_of_getElem? (i := 60) rfl)
theorem zm6_61 : Cond.classLink RX7 238 "java/lang/ArithmeticException" ∈ zAll := zin6 (List.mem_of_getElem? (i := 61) rfl)
theorem zm6_62 : Cond.initialized "java/lang/ArithmeticException" ∈ zAll := zin6 (List.mem_of_getElem? (i := 62) rfl)
theorem zm6_63 : Cond.methodLink RX7 234 yX3_countSeated ∈ zAll := zin6 (List.mem_of_getElem? (i := 63) rfl)
theorem zm6_64 : Cond.instanceMethod yX3_countSeated ∈ zAll := zin6 (List.mem_of_getElem? (i := 64) rfl)
theorem zm6_65 : Cond.selects RX3 yX3_countSeated yX3_countSeated ∈ zAll := zin6 (List.mem_of_getElem? (i := 65) rfl)
theorem zm6_66 : Cond.code yX7_meanNoise cX7_meanNoise 2 (some .double) ∈ zAll := zin6 (List.mem_of_getElem? (i := 66) rfl)
theorem zm6_67 : Cond.methodLink RX7 245 yX3_isInOrder ∈ zAll := zin6 (List.mem_of_getElem? (i := 67) rfl)
theorem zm6_68 : Cond.instanceMethod yX3_isInOrder ∈ zAll := zin6 (List.mem_of_getElem? (i := 68) rfl)
theorem zm6_69 : Cond.selects RX3 yX3_isInOrder yX3_isInOrder ∈ zAll := zin6 (List.mem_of_getElem? (i := 69) rfl)
theorem zm7_0 : Cond.methodLink RX7 248 yX6_isInOrder ∈ zAll := zin7 (List.mem_of_getElem? (i := 0) rfl)
theorem zm7_1 : Cond.instanceMethod yX6_isInOrder ∈ zAll := zin7 (List.mem_of_getElem? (i := 1) rfl)
theorem zm7_2 : Cond.selects RX6 yX6_isInOrder yX6_isInOrder ∈ zAll := zin7 (List.mem_of_getElem? (i := 2) rfl)
theorem zm7_3 : Cond.code yX7_isSound cX7_isSound 1 (some .boolean) ∈ zAll := zin7 (List.mem_of_getElem? (i := 3) rfl)
theorem zm7_4 : Cond.code yX8_rests cX8_rests 2 none ∈ zAll := zin7 (List.mem_of_getElem? (i := 4) rfl)
theorem zm7_5 : Cond.fieldLink RX8 20 "ClaqueRowModel" "noise" "[I" ∈ zAll := zin7 (List.mem_of_getElem? (i := 5) rfl)
theorem zm7_6 : Cond.fieldLink RX8 23 "ClaqueRowModel" "joined" "[I" ∈ zAll := zin7 (List.mem_of_getElem? (i := 6) rfl)
theorem zm7_7 : Cond.fieldLink RX8 29 "ClaqueRowModel" "joins" "[Z" ∈ zAll := zin7 (List.mem_of_getElem? (i := 7) rfl)
theorem zm7_8 : Cond.fieldLink RX8 33 "ClaqueRowModel" "hissed" "[Z" ∈ zAll := zin7 (List.mem_of_getElem? (i := 8) rfl)
theorem zm7_9 : Cond.code yX8_empties cX8_empties 2 none ∈ zAll := zin7 (List.mem_of_getElem? (i := 9) rfl)
theorem zm7_10 : Cond.fieldLink RX8 7 "ClaqueRowModel" "who" "[C" ∈ zAll := zin7 (List.mem_of_getElem? (i := 10) rfl)
theorem zm7_11 : Cond.fieldLink RX8 13 "ClaqueRowModel" "threshold" "[I" ∈ zAll := zin7 (List.mem_of_getElem? (i := 11) rfl)
theorem zm7_12 : Cond.fieldLink RX8 17 "ClaqueRowModel" "handIn" "[I" ∈ zAll := zin7 (List.mem_of_getElem? (i := 12) rfl)
theorem zm7_13 : Cond.methodLink RX8 132 yX8_rests ∈ zAll := zin7 (List.mem_of_getElem? (i := 13) rfl)
theorem zm7_14 : Cond.instanceMethod yX8_rests ∈ zAll := zin7 (List.mem_of_getElem? (i := 14) rfl)
theorem zm7_15 : Cond.selects RX8 yX8_rests yX8_rests ∈ zAll := zin7 (List.mem_of_getElem? (i := 15) rfl)
theorem zm7_16 : Cond.initialized RX8 ∈ zAll := zin7 (List.mem_of_getElem? (i := 16) rfl)
theorem zm7_17 : Cond.methodLink RX8 1 objectInit ∈ zAll := zin7 (List.mem_of_getElem? (i := 17) rfl)
theorem zm7_18 : Cond.arrayClass .char ∈ zAll := zin7 (List.mem_of_getElem? (i := 18) rfl)
theorem zm7_19 : Cond.arrayClass .int ∈ zAll := zin7 (List.mem_of_getElem? (i := 19) rfl)
theorem zm7_20 : Cond.fieldLink RX8 26 "ClaqueRowModel" "before" "[I" ∈ zAll := zin7 (List.mem_of_getElem? (i := 20) rfl)
theorem zm7_21 : Cond.arrayClass .boolean ∈ zAll := zin7 (List.mem_of_getElem? (i := 21) rfl)
theorem zm7_22 : Cond.fieldLink RX8 36 "ClaqueRowModel" "hissedBefore" "[Z" ∈ zAll := zin7 (List.mem_of_getElem? (i := 22) rfl)
theorem zm7_23 : Cond.fieldLink RX8 39 "ClaqueRowModel" "handKind" "[C" ∈ zAll := zin7 (List.mem_of_getElem? (i := 23) rfl)
theorem zm7_24 : Cond.fieldLink RX8 42 "ClaqueRowModel" "cueKind" "[C" ∈ zAll := zin7 (List.mem_of_getElem? (i := 24) rfl)
theorem zm7_25 : Cond.fieldLink RX8 45 "ClaqueRowModel" "strength" "[I" ∈ zAll := zin7 (List.mem_of_getElem? (i := 25) rfl)
theorem zm7_26 : Cond.fieldLink RX8 48 "ClaqueRowModel" "rank" "[I" ∈ zAll := zin7 (List.mem_of_getElem? (i := 26) rfl)
theorem zm7_27 : Cond.fieldLink RX8 51 "ClaqueRowModel" "price" "[I" ∈ zAll := zin7 (List.mem_of_getElem? (i := 27) rfl)
theorem zm7_28 : Cond.fieldLink RX8 54 "ClaqueRowModel" "money" "[I" ∈ zAll := zin7 (List.mem_of_getElem? (i := 28) rfl)
theorem zm7_29 : Cond.fieldLink RX8 57 "ClaqueRowModel" "night" "[I" ∈ zAll := zin7 (List.mem_of_getElem? (i := 29) rfl)
theorem zm7_30 : Cond.fieldLink RX8 60 "ClaqueRowModel" "perCall" "[I" ∈ zAll := zin7 (List.mem_of_getElem? (i := 30) rfl)
theorem zm7_31 : Cond.fieldLink RX8 63 "ClaqueRowModel" "owed" "[I" ∈ zAll := zin7 (List.mem_of_getElem? (i := 31) rfl)
theorem zm7_32 : Cond.fieldLink RX8 66 "ClaqueRowModel" "callsOf" "[I" ∈ zAll := zin7 (List.mem_of_getElem? (i := 32) rfl)
theorem zm7_33 : Cond.fieldLink RX8 69 "ClaqueRowModel" "cueSinger" "[I" ∈ zAll := zin7 (List.mem_of_getElem? (i := 33) rfl)
theorem zm7_34 : Cond.fieldLink RX8 72 "ClaqueRowModel" "cueTick" "[I" ∈ zAll := zin7 (List.mem_of_getElem? (i := 34) rfl)
theorem zm7_35 : Cond.fieldLink RX8 75 "ClaqueRowModel" "cueForce" "[I" ∈ zAll := zin7 (List.mem_of_getElem? (i := 35) rfl)
theorem zm7_36 : Cond.fieldLink RX8 78 "ClaqueRowModel" "cueTicks" "[I" ∈ zAll := zin7 (List.mem_of_getElem? (i := 36) rfl)
theorem zm7_37 : Cond.fieldLink RX8 81 "ClaqueRowModel" "rows" "I" ∈ zAll := zin7 (List.mem_of_getElem? (i := 37) rfl)
theorem zm7_38 : Cond.fieldLink RX8 85 "ClaqueRowModel" "wide" "I" ∈ zAll := zin7 (List.mem_of_getElem? (i := 38) rfl)
theorem zm7_39 : Cond.fieldLink RX8 88 "ClaqueRowModel" "hands" "I" ∈ zAll := zin7 (List.mem_of_getElem? (i := 39) rfl)
theorem zm7_40 : Cond.fieldLink RX8 91 "ClaqueRowModel" "singers" "I" ∈ zAll := zin7 (List.mem_of_getElem? (i := 40) rfl)
theorem zm7_41 : Cond.fieldLink RX8 94 "ClaqueRowModel" "cues" "I" ∈ zAll := zin7 (List.mem_of_getElem? (i := 41) rfl)
theorem zm7_42 : Cond.fieldLink RX8 97 "ClaqueRowModel" "level" "I" ∈ zAll := zin7 (List.mem_of_getElem? (i := 42) rfl)
theorem zm7_43 : Cond.fieldLink RX8 100 "ClaqueRowModel" "ticks" "I" ∈ zAll := zin7 (List.mem_of_getElem? (i := 43) rfl)
theorem zm7_44 : Cond.fieldLink RX8 103 "ClaqueRowModel" "loud" "I" ∈ zAll := zin7 (List.mem_of_getElem? (i := 44) rfl)
theorem zm7_45 : Cond.fieldLink RX8 106 "ClaqueRowModel" "calls" "I" ∈ zAll := zin7 (List.mem_of_getElem? (i := 45) rfl)
theorem zm7_46 : Cond.fieldLink RX8 109 "ClaqueRowModel" "hisses" "I" ∈ zAll := zin7 (List.mem_of_getElem? (i := 46) rfl)
theorem zm7_47 : Cond.fieldLink RX8 112 "ClaqueRowModel" "suspicions" "I" ∈ zAll := zin7 (List.mem_of_getElem? (i := 47) rfl)
theorem zm7_48 : Cond.fieldLink RX8 115 "ClaqueRowModel" "purse" "I" ∈ zAll := zin7 (List.mem_of_getElem? (i := 48) rfl)
theorem zm7_49 : Cond.fieldLink RX8 118 "ClaqueRowModel" "chiefs" "I" ∈ zAll := zin7 (List.mem_of_getElem? (i := 49) rfl)
theorem zm7_50 : Cond.fieldLink RX8 121 "ClaqueRowModel" "thrown" "I" ∈ zAll := zin7 (List.mem_of_getElem? (i := 50) rfl)
theorem zm7_51 : Cond.methodLink RX8 124 yX8_empties ∈ zAll := zin7 (List.mem_of_getElem? (i := 51) rfl)
theorem zm7_52 : Cond.instanceMethod yX8_empties ∈ zAll := zin7 (List.mem_of_getElem? (i := 52) rfl)
theorem zm7_53 : Cond.selects RX8 yX8_empties yX8_empties ∈ zAll := zin7 (List.mem_of_getElem? (i := 53) rfl)
theorem zm7_54 : Cond.code yX8_init cX8_init 2 none ∈ zAll := zin7 (List.mem_of_getElem? (i := 54) rfl)
theorem zm7_55 : Cond.code yX8_thrown cX8_thrown 1 (some .int) ∈ zAll := zin7 (List.mem_of_getElem? (i := 55) rfl)
theorem zm7_56 : Cond.code yX8_in cX8_in 3 (some .boolean) ∈ zAll := zin7 (List.mem_of_getElem? (i := 56) rfl)
theorem zm7_57 : Cond.code yX8_least cX8_least 2 (some .int) ∈ zAll := zin7 (List.mem_of_getElem? (i := 57) rfl)
theorem zm7_58 : Cond.code yX8_most cX8_most 2 (some .int) ∈ zAll := zin7 (List.mem_of_getElem? (i := 58) rfl)
theorem zm7_59 : Cond.code yX8_fails cX8_fails 2 (some .int) ∈ zAll := zin7 (List.mem_of_getElem? (i := 59) rfl)
theorem zm7_60 : Cond.code yX8_failsAs cX8_failsAs 2 (some .char) ∈ zAll := zin7 (List.mem_of_getElem? (i := 60) rfl)
theorem zm7_61 : Cond.code yX8_tells cX8_tells 2 (some .int) ∈ zAll := zin7 (List.mem_of_getElem? (i := 61) rfl)
theorem zm7_62 : Cond.code yX8_tellsAs cX8_tellsAs 2 (some .char) ∈ zAll := zin7 (List.mem_of_getElem? (i := 62) rfl)
theorem zm7_63 : Cond.code yX8_failsIf cX8_failsIf 2 (some .boolean) ∈ zAll := zin7 (List.mem_of_getElem? (i := 63) rfl)
theorem zm7_64 : Cond.code yX8_isSeat cX8_isSeat 3 (some .boolean) ∈ zAll := zin7 (List.mem_of_getElem? (i := 64) rfl)
theorem zm7_65 : Cond.methodLink RX8 128 yX8_in ∈ zAll := zin7 (List.mem_of_getElem? (i := 65) rfl)
theorem zm7_66 : Cond.static yX8_in ∈ zAll := zin7 (List.mem_of_getElem? (i := 66) rfl)
theorem zm7_67 : Cond.code yX8_isHand cX8_isHand 2 (some .boolean) ∈ zAll := zin7 (List.mem_of_getElem? (i := 67) rfl)
theorem zm7_68 : Cond.code yX8_isSinger cX8_isSinger 2 (some .boolean) ∈ zAll := zin7 (List.mem_of_getElem? (i := 68) rfl)
theorem zm7_69 : Cond.code yX8_begins cX8_begins 2 none ∈ zAll := zin7 (List.mem_of_getElem? (i := 69) rfl)
theorem zm8_0 : Cond.methodLink RX8 135 yX8_fails ∈ zAll := zin8 (List.mem_of_getElem? (i := 0) rfl)
theorem zm8_1 : Cond.instanceMethod yX8_fails ∈ zAll := zin8 (List.mem_of_getElem? (i := 1) rfl)
theorem zm8_2 : Cond.selects RX8 yX8_fails yX8_fails ∈ zAll := zin8 (List.mem_of_getElem? (i := 2) rfl)
theorem zm8_3 : Cond.methodLink RX8 139 yX8_begins ∈ zAll := zin8 (List.mem_of_getElem? (i := 3) rfl)
theorem zm8_4 : Cond.instanceMethod yX8_begins ∈ zAll := zin8 (List.mem_of_getElem? (i := 4) rfl)
theorem zm8_5 : Cond.selects RX8 yX8_begins yX8_begins ∈ zAll := zin8 (List.mem_of_getElem? (i := 5) rfl)
theorem zm8_6 : Cond.methodLink RX8 142 yX8_tells ∈ zAll := zin8 (List.mem_of_getElem? (i := 6) rfl)
theorem zm8_7 : Cond.instanceMethod yX8_tells ∈ zAll := zin8 (List.mem_of_getElem? (i := 7) rfl)
theorem zm8_8 : Cond.selects RX8 yX8_tells yX8_tells ∈ zAll := zin8 (List.mem_of_getElem? (i := 8) rfl)
theorem zm8_9 : Cond.code yX8_newHouse cX8_newHouse 4 (some .int) ∈ zAll := zin8 (List.mem_of_getElem? (i := 9) rfl)
theorem zm8_10 : Cond.methodLink RX8 145 yX8_isSeat ∈ zAll := zin8 (List.mem_of_getElem? (i := 10) rfl)
theorem zm8_11 : Cond.instanceMethod yX8_isSeat ∈ zAll := zin8 (List.mem_of_getElem? (i := 11) rfl)
theorem zm8_12 : Cond.selects RX8 yX8_isSeat yX8_isSeat ∈ zAll := zin8 (List.mem_of_getElem? (i := 12) rfl)
theorem zm8_13 : Cond.methodLink RX8 149 yX8_failsAs ∈ zAll := zin8 (List.mem_of_getElem? (i := 13) rfl)
theorem zm8_14 : Cond.instanceMethod yX8_failsAs ∈ zAll := zin8 (List.mem_of_getElem? (i := 14) rfl)
theorem zm8_15 : Cond.selects RX8 yX8_failsAs yX8_failsAs ∈ zAll := zin8 (List.mem_of_getElem? (i := 15) rfl)
theorem zm8_16 : Cond.methodLink RX8 153 yX8_tellsAs ∈ zAll := zin8 (List.mem_of_getElem? (i := 16) rfl)
theorem zm8_17 : Cond.instanceMethod yX8_tellsAs ∈ zAll := zin8 (List.mem_of_getElem? (i := 17) rfl)
theorem zm8_18 : Cond.selects RX8 yX8_tellsAs yX8_tellsAs ∈ zAll := zin8 (List.mem_of_getElem? (i := 18) rfl)
theorem zm8_19 : Cond.code yX8_seatPayer cX8_seatPayer 6 (some .char) ∈ zAll := zin8 (List.mem_of_getElem? (i := 19) rfl)
theorem zm8_20 : Cond.code yX8_seatRival cX8_seatRival 4 (some .char) ∈ zAll := zin8 (List.mem_of_getElem? (i := 20) rfl)
theorem zm8_21 : Cond.methodLink RX8 157 yX8_isHand ∈ zAll := zin8 (List.mem_of_getElem? (i := 21) rfl)
theorem zm8_22 : Cond.instanceMethod yX8_isHand ∈ zAll := zin8 (List.mem_of_getElem? (i := 22) rfl)
theorem zm8_23 : Cond.selects RX8 yX8_isHand yX8_isHand ∈ zAll := zin8 (List.mem_of_getElem? (i := 23) rfl)
theorem zm8_24 : Cond.code yX8_seatHand cX8_seatHand 6 (some .char) ∈ zAll := zin8 (List.mem_of_getElem? (i := 24) rfl)
theorem zm8_25 : Cond.code yX8_clearSeat cX8_clearSeat 4 (some .char) ∈ zAll := zin8 (List.mem_of_getElem? (i := 25) rfl)
theorem zm8_26 : Cond.code yX8_seatAt cX8_seatAt 3 (some .char) ∈ zAll := zin8 (List.mem_of_getElem? (i := 26) rfl)
theorem zm8_27 : Cond.code yX8_isKind cX8_isKind 2 (some .boolean) ∈ zAll := zin8 (List.mem_of_getElem? (i := 27) rfl)
theorem zm8_28 : Cond.code yX8_addHand cX8_addHand 5 (some .int) ∈ zAll := zin8 (List.mem_of_getElem? (i := 28) rfl)
theorem zm8_29 : Cond.methodLink RX8 161 yX8_isKind ∈ zAll := zin8 (List.mem_of_getElem? (i := 29) rfl)
theorem zm8_30 : Cond.static yX8_isKind ∈ zAll := zin8 (List.mem_of_getElem? (i := 30) rfl)
theorem zm8_31 : Cond.code yX8_isSeated cX8_isSeated 4 (some .boolean) ∈ zAll := zin8 (List.mem_of_getElem? (i := 31) rfl)
theorem zm8_32 : Cond.methodLink RX8 165 yX8_failsIf ∈ zAll := zin8 (List.mem_of_getElem? (i := 32) rfl)
theorem zm8_33 : Cond.instanceMethod yX8_failsIf ∈ zAll := zin8 (List.mem_of_getElem? (i := 33) rfl)
theorem zm8_34 : Cond.selects RX8 yX8_failsIf yX8_failsIf ∈ zAll := zin8 (List.mem_of_getElem? (i := 34) rfl)
theorem zm8_35 : Cond.code yX8_addSinger cX8_addSinger 3 (some .int) ∈ zAll := zin8 (List.mem_of_getElem? (i := 35) rfl)
theorem zm8_36 : Cond.methodLink RX8 168 yX8_isSinger ∈ zAll := zin8 (List.mem_of_getElem? (i := 36) rfl)
theorem zm8_37 : Cond.instanceMethod yX8_isSinger ∈ zAll := zin8 (List.mem_of_getElem? (i := 37) rfl)
theorem zm8_38 : Cond.selects RX8 yX8_isSinger yX8_isSinger ∈ zAll := zin8 (List.mem_of_getElem? (i := 38) rfl)
theorem zm8_39 : Cond.code yX8_addCue cX8_addCue 6 (some .int) ∈ zAll := zin8 (List.mem_of_getElem? (i := 39) rfl)
theorem zm8_40 : Cond.code yX8_setLevel cX8_setLevel 3 (some .int) ∈ zAll := zin8 (List.mem_of_getElem? (i := 40) rfl)
theorem zm8_41 : Cond.code yX8_handNoise cX8_handNoise 5 (some .int) ∈ zAll := zin8 (List.mem_of_getElem? (i := 41) rfl)
theorem zm8_42 : Cond.methodLink RX8 171 yX8_most ∈ zAll := zin8 (List.mem_of_getElem? (i := 42) rfl)
theorem zm8_43 : Cond.static yX8_most ∈ zAll := zin8 (List.mem_of_getElem? (i := 43) rfl)
theorem zm8_44 : Cond.methodLink RX8 175 yX8_least ∈ zAll := zin8 (List.mem_of_getElem? (i := 44) rfl)
theorem zm8_45 : Cond.static yX8_least ∈ zAll := zin8 (List.mem_of_getElem? (i := 45) rfl)
theorem zm8_46 : Cond.code yX8_around cX8_around 5 (some .int) ∈ zAll := zin8 (List.mem_of_getElem? (i := 46) rfl)
theorem zm8_47 : Cond.methodLink RX8 178 yX8_handNoise ∈ zAll := zin8 (List.mem_of_getElem? (i := 47) rfl)
theorem zm8_48 : Cond.instanceMethod yX8_handNoise ∈ zAll := zin8 (List.mem_of_getElem? (i := 48) rfl)
theorem zm8_49 : Cond.selects RX8 yX8_handNoise yX8_handNoise ∈ zAll := zin8 (List.mem_of_getElem? (i := 49) rfl)
theorem zm8_50 : Cond.methodLink RX8 181 yX8_around ∈ zAll := zin8 (List.mem_of_getElem? (i := 50) rfl)
theorem zm8_51 : Cond.instanceMethod yX8_around ∈ zAll := zin8 (List.mem_of_getElem? (i := 51) rfl)
theorem zm8_52 : Cond.selects RX8 yX8_around yX8_around ∈ zAll := zin8 (List.mem_of_getElem? (i := 52) rfl)
theorem zm8_53 : Cond.code yX8_sits cX8_sits 3 none ∈ zAll := zin8 (List.mem_of_getElem? (i := 53) rfl)
theorem zm8_54 : Cond.code yX8_calling cX8_calling 3 none ∈ zAll := zin8 (List.mem_of_getElem? (i := 54) rfl)
theorem zm8_55 : Cond.code yX8_noisy cX8_noisy 4 (some .int) ∈ zAll := zin8 (List.mem_of_getElem? (i := 55) rfl)
theorem zm8_56 : Cond.code yX8_summed cX8_summed 3 (some .int) ∈ zAll := zin8 (List.mem_of_getElem? (i := 56) rfl)
theorem zm8_57 : Cond.methodLink RX8 184 yX8_sits ∈ zAll := zin8 (List.mem_of_getElem? (i := 57) rfl)
theorem zm8_58 : Cond.instanceMethod yX8_sits ∈ zAll := zin8 (List.mem_of_getElem? (i := 58) rfl)
theorem zm8_59 : Cond.selects RX8 yX8_sits yX8_sits ∈ zAll := zin8 (List.mem_of_getElem? (i := 59) rfl)
theorem zm8_60 : Cond.methodLink RX8 187 yX8_summed ∈ zAll := zin8 (List.mem_of_getElem? (i := 60) rfl)
theorem zm8_61 : Cond.instanceMethod yX8_summed ∈ zAll := zin8 (List.mem_of_getElem? (i := 61) rfl)
theorem zm8_62 : Cond.selects RX8 yX8_summed yX8_summed ∈ zAll := zin8 (List.mem_of_getElem? (i := 62) rfl)
theorem zm8_63 : Cond.methodLink RX8 191 yX8_calling ∈ zAll := zin8 (List.mem_of_getElem? (i := 63) rfl)
theorem zm8_64 : Cond.instanceMethod yX8_calling ∈ zAll := zin8 (List.mem_of_getElem? (i := 64) rfl)
theorem zm8_65 : Cond.selects RX8 yX8_calling yX8_calling ∈ zAll := zin8 (List.mem_of_getElem? (i := 65) rfl)
theorem zm8_66 : Cond.methodLink RX8 194 yX8_noisy ∈ zAll := zin8 (List.mem_of_getElem? (i := 66) rfl)
theorem zm8_67 : Cond.instanceMethod yX8_noisy ∈ zAll := zin8 (List.mem_of_getElem? (i := 67) rfl)
theorem zm8_68 : Cond.selects RX8 yX8_noisy yX8_noisy ∈ zAll := zin8 (List.mem_of_getElem? (i := 68) rfl)
theorem zm8_69 : Cond.code yX8_goes cX8_goes 3 none ∈ zAll := zin8 (List.mem_of_getElem? (i := 69) rfl)
theorem zm9_0 : Cond.methodLink RX8 198 yX8_goes ∈ zAll := zin9 (List.mem_of_getElem? (i := 0) rfl)
theorem zm9_1 : Cond.instanceMethod yX8_goes ∈ zAll := zin9 (List.mem_of_getElem? (i := 1) rfl)
theorem zm9_2 : Cond.selects RX8 yX8_goes yX8_goes ∈ zAll := zin9 (List.mem_of_getElem? (i := 2) rfl)
theorem zm9_3 : Cond.code yX8_run cX8_run 3 (some .int) ∈ zAll := zin9 (List.mem_of_getElem? (i := 3) rfl)
theorem zm9_4 : Cond.code yX8_noiseAt cX8_noiseAt 3 (some .int) ∈ zAll := zin9 (List.mem_of_getElem? (i := 4) rfl)
theorem zm9_5 : Cond.code yX8_noise cX8_noise 1 (some .int) ∈ zAll := zin9 (List.mem_of_getElem? (i := 5) rfl)
theorem zm9_6 : Cond.code yX8_joiners cX8_joiners 3 (some .int) ∈ zAll := zin9 (List.mem_of_getElem? (i := 6) rfl)
theorem zm9_7 : Cond.code yX8_joining cX8_joining 1 (some .int) ∈ zAll := zin9 (List.mem_of_getElem? (i := 7) rfl)
theorem zm9_8 : Cond.methodLink RX8 201 yX8_joiners ∈ zAll := zin9 (List.mem_of_getElem? (i := 8) rfl)
theorem zm9_9 : Cond.instanceMethod yX8_joiners ∈ zAll := zin9 (List.mem_of_getElem? (i := 9) rfl)
theorem zm9_10 : Cond.selects RX8 yX8_joiners yX8_joiners ∈ zAll := zin9 (List.mem_of_getElem? (i := 10) rfl)
theorem zm9_11 : Cond.code yX8_hisses cX8_hisses 1 (some .int) ∈ zAll := zin9 (List.mem_of_getElem? (i := 11) rfl)
theorem zm9_12 : Cond.code yX8_tiredness cX8_tiredness 3 (some .int) ∈ zAll := zin9 (List.mem_of_getElem? (i := 12) rfl)
theorem zm9_13 : Cond.code yX8_callsOf cX8_callsOf 2 (some .int) ∈ zAll := zin9 (List.mem_of_getElem? (i := 13) rfl)
theorem zm9_14 : Cond.code yX8_calls cX8_calls 1 (some .int) ∈ zAll := zin9 (List.mem_of_getElem? (i := 14) rfl)
theorem zm9_15 : Cond.code yX8_suspicions cX8_suspicions 1 (some .int) ∈ zAll := zin9 (List.mem_of_getElem? (i := 15) rfl)
theorem zm9_16 : Cond.code yX8_areFoundOut cX8_areFoundOut 1 (some .boolean) ∈ zAll := zin9 (List.mem_of_getElem? (i := 16) rfl)
theorem zm9_17 : Cond.code yX8_endEvening cX8_endEvening 5 (some .int) ∈ zAll := zin9 (List.mem_of_getElem? (i := 17) rfl)
theorem zm9_18 : Cond.code yX8_pay cX8_pay 4 (some .int) ∈ zAll := zin9 (List.mem_of_getElem? (i := 18) rfl)
theorem zm9_19 : Cond.constant RX8 204 (99999) ∈ zAll := zin9 (List.mem_of_getElem? (i := 19) rfl)
theorem zm9_20 : Cond.code yX8_owed cX8_owed 2 (some .int) ∈ zAll := zin9 (List.mem_of_getElem? (i := 20) rfl)
theorem zm9_21 : Cond.code yX8_purse cX8_purse 1 (some .int) ∈ zAll := zin9 (List.mem_of_getElem? (i := 21) rfl)
theorem zm9_22 : Cond.code yX8_share cX8_share 5 (some .int) ∈ zAll := zin9 (List.mem_of_getElem? (i := 22) rfl)
theorem zm9_23 : Cond.code yX8_moneyOf cX8_moneyOf 2 (some .int) ∈ zAll := zin9 (List.mem_of_getElem? (i := 23) rfl)
theorem zm9_24 : Cond.code yX8_chiefs cX8_chiefs 1 (some .int) ∈ zAll := zin9 (List.mem_of_getElem? (i := 24) rfl)
theorem zm9_25 : Cond.code yX8_summed_ cX8_summed_ 5 (some .int) ∈ zAll := zin9 (List.mem_of_getElem? (i := 25) rfl)
theorem zm9_26 : Cond.code yX8_isBetter cX8_isBetter 4 (some .boolean) ∈ zAll := zin9 (List.mem_of_getElem? (i := 26) rfl)
theorem zm9_27 : Cond.methodLink RX8 205 yX8_summed_ ∈ zAll := zin9 (List.mem_of_getElem? (i := 27) rfl)
theorem zm9_28 : Cond.instanceMethod yX8_summed_ ∈ zAll := zin9 (List.mem_of_getElem? (i := 28) rfl)
theorem zm9_29 : Cond.selects RX8 yX8_summed_ yX8_summed_ ∈ zAll := zin9 (List.mem_of_getElem? (i := 29) rfl)
theorem zm9_30 : Cond.code yX8_planned cX8_planned 4 (some .int) ∈ zAll := zin9 (List.mem_of_getElem? (i := 30) rfl)
theorem zm9_31 : Cond.methodLink RX8 207 yX8_isBetter ∈ zAll := zin9 (List.mem_of_getElem? (i := 31) rfl)
theorem zm9_32 : Cond.instanceMethod yX8_isBetter ∈ zAll := zin9 (List.mem_of_getElem? (i := 32) rfl)
theorem zm9_33 : Cond.selects RX8 yX8_isBetter yX8_isBetter ∈ zAll := zin9 (List.mem_of_getElem? (i := 33) rfl)
theorem zm9_34 : Cond.methodLink RX8 210 yX8_planned ∈ zAll := zin9 (List.mem_of_getElem? (i := 34) rfl)
theorem zm9_35 : Cond.instanceMethod yX8_planned ∈ zAll := zin9 (List.mem_of_getElem? (i := 35) rfl)
theorem zm9_36 : Cond.selects RX8 yX8_planned yX8_planned ∈ zAll := zin9 (List.mem_of_getElem? (i := 36) rfl)
theorem zm9_37 : Cond.code yX8_planCost cX8_planCost 3 (some .int) ∈ zAll := zin9 (List.mem_of_getElem? (i := 37) rfl)
theorem zm9_38 : Cond.code yX8_isPlanned cX8_isPlanned 4 (some .boolean) ∈ zAll := zin9 (List.mem_of_getElem? (i := 38) rfl)
theorem zm9_39 : Cond.code yX8_checksum cX8_checksum 5 (some .long) ∈ zAll := zin9 (List.mem_of_getElem? (i := 39) rfl)
theorem zm9_40 : Cond.constantLong RX8 213 (7) ∈ zAll := zin9 (List.mem_of_getElem? (i := 40) rfl)
theorem zm9_41 : Cond.constantLong RX8 215 (31) ∈ zAll := zin9 (List.mem_of_getElem? (i := 41) rfl)
theorem zm9_42 : Cond.code yX8_payers cX8_payers 3 (some .int) ∈ zAll := zin9 (List.mem_of_getElem? (i := 42) rfl)
theorem zm9_43 : Cond.code yX8_joiningShare cX8_joiningShare 1 (some .float) ∈ zAll := zin9 (List.mem_of_getElem? (i := 43) rfl)
theorem zm9_44 : Cond.methodLink RX8 217 yX8_payers ∈ zAll := zin9 (List.mem_of_getElem? (i := 44) rfl)
theorem zm9_45 : Cond.instanceMethod yX8_payers ∈ zAll := zin9 (List.mem_of_getElem? (i := 45) rfl)
theorem zm9_46 : Cond.selects RX8 yX8_payers yX8_payers ∈ zAll := zin9 (List.mem_of_getElem? (i := 46) rfl)
theorem zm9_47 : Cond.code yX8_meanNoise cX8_meanNoise 1 (some .double) ∈ zAll := zin9 (List.mem_of_getElem? (i := 47) rfl)
theorem zm9_48 : Cond.code yX8_isSound cX8_isSound 1 (some .boolean) ∈ zAll := zin9 (List.mem_of_getElem? (i := 48) rfl)
theorem zm9_49 : Cond.code yJx00060_init_a7421 cJx00060_init_a7421 2 none ∈ zAll := zin9 (List.mem_of_getElem? (i := 49) rfl)
theorem zm9_50 : Cond.code yJ9_max_7cf53 cJ9_max_7cf53 2 (some .int) ∈ zAll := zin9 (List.mem_of_getElem? (i := 50) rfl)
theorem zm9_51 : Cond.code yJ9_min_7cf53 cJ9_min_7cf53 2 (some .int) ∈ zAll := zin9 (List.mem_of_getElem? (i := 51) rfl)
theorem zm9_52 : Cond.classLink RL 13 "java/lang/IllegalArgumentException" ∈ zAll := zin9 (List.mem_of_getElem? (i := 52) rfl)
theorem zm9_53 : Cond.methodLink RL 7 yX7_newHouse ∈ zAll := zin9 (List.mem_of_getElem? (i := 53) rfl)
theorem zm9_54 : Cond.instanceMethod yX7_newHouse ∈ zAll := zin9 (List.mem_of_getElem? (i := 54) rfl)
theorem zm9_55 : Cond.selects RX7 yX7_newHouse yX7_newHouse ∈ zAll := zin9 (List.mem_of_getElem? (i := 55) rfl)
theorem zm9_56 : Cond.codeWith yL_newHouse cL_newHouse 5 (some .int) [(0, 10, 13, 13)] ∈ zAll := zin9 (List.mem_of_getElem? (i := 56) rfl)
theorem zm9_57 : Cond.classLink RL 19 "java/lang/IndexOutOfBoundsException" ∈ zAll := zin9 (List.mem_of_getElem? (i := 57) rfl)
theorem zm9_58 : Cond.methodLink RL 15 yX7_seatPayer ∈ zAll := zin9 (List.mem_of_getElem? (i := 58) rfl)
theorem zm9_59 : Cond.instanceMethod yX7_seatPayer ∈ zAll := zin9 (List.mem_of_getElem? (i := 59) rfl)
theorem zm9_60 : Cond.selects RX7 yX7_seatPayer yX7_seatPayer ∈ zAll := zin9 (List.mem_of_getElem? (i := 60) rfl)
theorem zm9_61 : Cond.codeWith yL_seatPayer cL_seatPayer 6 (some .int) [(0, 12, 15, 19), (0, 12, 19, 13)] ∈ zAll := zin9 (List.mem_of_getElem? (i := 61) rfl)
theorem zm9_62 : Cond.methodLink RL 21 yX7_seatRival ∈ zAll := zin9 (List.mem_of_getElem? (i := 62) rfl)
theorem zm9_63 : Cond.instanceMethod yX7_seatRival ∈ zAll := zin9 (List.mem_of_getElem? (i := 63) rfl)
theorem zm9_64 : Cond.selects RX7 yX7_seatRival yX7_seatRival ∈ zAll := zin9 (List.mem_of_getElem? (i := 64) rfl)
theorem zm9_65 : Cond.codeWith yL_seatRival cL_seatRival 5 (some .int) [(0, 10, 13, 19)] ∈ zAll := zin9 (List.mem_of_getElem? (i := 65) rfl)
theorem zm9_66 : Cond.classLink RL 28 "java/lang/UnsupportedOperationException" ∈ zAll := zin9 (List.mem_of_getElem? (i := 66) rfl)
theorem zm9_67 : Cond.methodLink RL 25 yX7_seatHand ∈ zAll := zin9 (List.mem_of_getElem? (i := 67) rfl)
theorem zm9_68 : Cond.instanceMethod yX7_seatHand ∈ zAll := zin9 (List.mem_of_getElem? (i := 68) rfl)
theorem zm9_69 : Cond.selects RX7 yX7_seatHand yX7_seatHand ∈ zAll := zin9 (List.mem_of_getElem? (i := 69) rfl)
theorem zm10_0 : Cond.codeWith yL_seatHand cL_seatHand 6 (some .int) [(0, 12, 15, 19), (0, 12, 19, 28)] ∈ zAll := zin10 (List.mem_of_getElem? (i := 0) rfl)
theorem zm10_1 : Cond.methodLink RL 30 yX7_clearSeat ∈ zAll := zin10 (List.mem_of_getElem? (i := 1) rfl)
theorem zm10_2 : Cond.instanceMethod yX7_clearSeat ∈ zAll := zin10 (List.mem_of_getElem? (i := 2) rfl)
theorem zm10_3 : Cond.selects RX7 yX7_clearSeat yX7_clearSeat ∈ zAll := zin10 (List.mem_of_getElem? (i := 3) rfl)
theorem zm10_4 : Cond.codeWith yL_clearSeat cL_clearSeat 5 (some .int) [(0, 10, 13, 19)] ∈ zAll := zin10 (List.mem_of_getElem? (i := 4) rfl)
theorem zm10_5 : Cond.codeWith yL_seatAt cL_seatAt 5 (some .int) [(0, 10, 13, 19)] ∈ zAll := zin10 (List.mem_of_getElem? (i := 5) rfl)
theorem zm10_6 : Cond.methodLink RL 33 yX7_seatAt ∈ zAll := zin10 (List.mem_of_getElem? (i := 6) rfl)
theorem zm10_7 : Cond.instanceMethod yX7_seatAt ∈ zAll := zin10 (List.mem_of_getElem? (i := 7) rfl)
theorem zm10_8 : Cond.selects RX7 yX7_seatAt yX7_seatAt ∈ zAll := zin10 (List.mem_of_getElem? (i := 8) rfl)
theorem zm10_9 : Cond.classLink RL 40 "java/lang/IllegalStateException" ∈ zAll := zin10 (List.mem_of_getElem? (i := 9) rfl)
theorem zm10_10 : Cond.methodLink RL 36 yX7_addHand ∈ zAll := zin10 (List.mem_of_getElem? (i := 10) rfl)
theorem zm10_11 : Cond.instanceMethod yX7_addHand ∈ zAll := zin10 (List.mem_of_getElem? (i := 11) rfl)
theorem zm10_12 : Cond.selects RX7 yX7_addHand yX7_addHand ∈ zAll := zin10 (List.mem_of_getElem? (i := 12) rfl)
theorem zm10_13 : Cond.codeWith yL_addHand cL_addHand 7 (some .int) [(0, 14, 17, 13), (0, 14, 21, 40)] ∈ zAll := zin10 (List.mem_of_getElem? (i := 13) rfl)
theorem zm10_14 : Cond.methodLink RL 42 yX7_isSeated ∈ zAll := zin10 (List.mem_of_getElem? (i := 14) rfl)
theorem zm10_15 : Cond.instanceMethod yX7_isSeated ∈ zAll := zin10 (List.mem_of_getElem? (i := 15) rfl)
theorem zm10_16 : Cond.selects RX7 yX7_isSeated yX7_isSeated ∈ zAll := zin10 (List.mem_of_getElem? (i := 16) rfl)
theorem zm10_17 : Cond.codeWith yL_isSeated cL_isSeated 4 (some .int) [(0, 16, 19, 19)] ∈ zAll := zin10 (List.mem_of_getElem? (i := 17) rfl)
theorem zm10_18 : Cond.methodLink RL 46 yX7_addSinger ∈ zAll := zin10 (List.mem_of_getElem? (i := 18) rfl)
theorem zm10_19 : Cond.instanceMethod yX7_addSinger ∈ zAll := zin10 (List.mem_of_getElem? (i := 19) rfl)
theorem zm10_20 : Cond.selects RX7 yX7_addSinger yX7_addSinger ∈ zAll := zin10 (List.mem_of_getElem? (i := 20) rfl)
theorem zm10_21 : Cond.codeWith yL_addSinger cL_addSinger 5 (some .int) [(0, 10, 13, 13), (0, 10, 17, 40)] ∈ zAll := zin10 (List.mem_of_getElem? (i := 21) rfl)
theorem zm10_22 : Cond.methodLink RL 49 yX7_addCue ∈ zAll := zin10 (List.mem_of_getElem? (i := 22) rfl)
theorem zm10_23 : Cond.instanceMethod yX7_addCue ∈ zAll := zin10 (List.mem_of_getElem? (i := 23) rfl)
theorem zm10_24 : Cond.selects RX7 yX7_addCue yX7_addCue ∈ zAll := zin10 (List.mem_of_getElem? (i := 24) rfl)
theorem zm10_25 : Cond.codeWith yL_addCue cL_addCue 8 (some .int) [(0, 16, 19, 19), (0, 16, 23, 13), (0, 16, 27, 28), (0, 16, 31, 40)] ∈ zAll := zin10 (List.mem_of_getElem? (i := 25) rfl)
theorem zm10_26 : Cond.codeWith yL_setLevel cL_setLevel 4 (some .int) [(0, 9, 12, 13)] ∈ zAll := zin10 (List.mem_of_getElem? (i := 26) rfl)
theorem zm10_27 : Cond.methodLink RL 53 yX7_setLevel ∈ zAll := zin10 (List.mem_of_getElem? (i := 27) rfl)
theorem zm10_28 : Cond.instanceMethod yX7_setLevel ∈ zAll := zin10 (List.mem_of_getElem? (i := 28) rfl)
theorem zm10_29 : Cond.selects RX7 yX7_setLevel yX7_setLevel ∈ zAll := zin10 (List.mem_of_getElem? (i := 29) rfl)
theorem zm10_30 : Cond.methodLink RL 57 yX7_run ∈ zAll := zin10 (List.mem_of_getElem? (i := 30) rfl)
theorem zm10_31 : Cond.instanceMethod yX7_run ∈ zAll := zin10 (List.mem_of_getElem? (i := 31) rfl)
theorem zm10_32 : Cond.selects RX7 yX7_run yX7_run ∈ zAll := zin10 (List.mem_of_getElem? (i := 32) rfl)
theorem zm10_33 : Cond.codeWith yL_run cL_run 4 (some .int) [(0, 9, 12, 13), (0, 9, 15, 40)] ∈ zAll := zin10 (List.mem_of_getElem? (i := 33) rfl)
theorem zm10_34 : Cond.codeWith yL_noiseAt cL_noiseAt 5 (some .int) [(0, 10, 13, 19)] ∈ zAll := zin10 (List.mem_of_getElem? (i := 34) rfl)
theorem zm10_35 : Cond.methodLink RL 60 yX7_noiseAt ∈ zAll := zin10 (List.mem_of_getElem? (i := 35) rfl)
theorem zm10_36 : Cond.instanceMethod yX7_noiseAt ∈ zAll := zin10 (List.mem_of_getElem? (i := 36) rfl)
theorem zm10_37 : Cond.selects RX7 yX7_noiseAt yX7_noiseAt ∈ zAll := zin10 (List.mem_of_getElem? (i := 37) rfl)
theorem zm10_38 : Cond.methodLink RL 63 yX7_tiredness ∈ zAll := zin10 (List.mem_of_getElem? (i := 38) rfl)
theorem zm10_39 : Cond.instanceMethod yX7_tiredness ∈ zAll := zin10 (List.mem_of_getElem? (i := 39) rfl)
theorem zm10_40 : Cond.selects RX7 yX7_tiredness yX7_tiredness ∈ zAll := zin10 (List.mem_of_getElem? (i := 40) rfl)
theorem zm10_41 : Cond.codeWith yL_tiredness cL_tiredness 5 (some .int) [(0, 10, 13, 19), (0, 10, 17, 28)] ∈ zAll := zin10 (List.mem_of_getElem? (i := 41) rfl)
theorem zm10_42 : Cond.methodLink RL 66 yX7_callsOf ∈ zAll := zin10 (List.mem_of_getElem? (i := 42) rfl)
theorem zm10_43 : Cond.instanceMethod yX7_callsOf ∈ zAll := zin10 (List.mem_of_getElem? (i := 43) rfl)
theorem zm10_44 : Cond.selects RX7 yX7_callsOf yX7_callsOf ∈ zAll := zin10 (List.mem_of_getElem? (i := 44) rfl)
theorem zm10_45 : Cond.codeWith yL_callsOf cL_callsOf 4 (some .int) [(0, 9, 12, 19)] ∈ zAll := zin10 (List.mem_of_getElem? (i := 45) rfl)
theorem zm10_46 : Cond.methodLink RL 69 yX7_endEvening ∈ zAll := zin10 (List.mem_of_getElem? (i := 46) rfl)
theorem zm10_47 : Cond.instanceMethod yX7_endEvening ∈ zAll := zin10 (List.mem_of_getElem? (i := 47) rfl)
theorem zm10_48 : Cond.selects RX7 yX7_endEvening yX7_endEvening ∈ zAll := zin10 (List.mem_of_getElem? (i := 48) rfl)
theorem zm10_49 : Cond.codeWith yL_endEvening cL_endEvening 3 (some .int) [(0, 8, 11, 40)] ∈ zAll := zin10 (List.mem_of_getElem? (i := 49) rfl)
theorem zm10_50 : Cond.methodLink RL 73 yX7_pay ∈ zAll := zin10 (List.mem_of_getElem? (i := 50) rfl)
theorem zm10_51 : Cond.instanceMethod yX7_pay ∈ zAll := zin10 (List.mem_of_getElem? (i := 51) rfl)
theorem zm10_52 : Cond.selects RX7 yX7_pay yX7_pay ∈ zAll := zin10 (List.mem_of_getElem? (i := 52) rfl)
theorem zm10_53 : Cond.codeWith yL_pay cL_pay 5 (some .int) [(0, 10, 13, 19), (0, 10, 17, 13), (0, 10, 21, 28)] ∈ zAll := zin10 (List.mem_of_getElem? (i := 53) rfl)
theorem zm10_54 : Cond.methodLink RL 76 yX7_owed ∈ zAll := zin10 (List.mem_of_getElem? (i := 54) rfl)
theorem zm10_55 : Cond.instanceMethod yX7_owed ∈ zAll := zin10 (List.mem_of_getElem? (i := 55) rfl)
theorem zm10_56 : Cond.selects RX7 yX7_owed yX7_owed ∈ zAll := zin10 (List.mem_of_getElem? (i := 56) rfl)
theorem zm10_57 : Cond.codeWith yL_owed cL_owed 4 (some .int) [(0, 9, 12, 19)] ∈ zAll := zin10 (List.mem_of_getElem? (i := 57) rfl)
theorem zm10_58 : Cond.methodLink RL 79 yX7_share ∈ zAll := zin10 (List.mem_of_getElem? (i := 58) rfl)
theorem zm10_59 : Cond.instanceMethod yX7_share ∈ zAll := zin10 (List.mem_of_getElem? (i := 59) rfl)
theorem zm10_60 : Cond.selects RX7 yX7_share yX7_share ∈ zAll := zin10 (List.mem_of_getElem? (i := 60) rfl)
theorem zm10_61 : Cond.codeWith yL_share cL_share 3 (some .int) [(0, 8, 11, 28)] ∈ zAll := zin10 (List.mem_of_getElem? (i := 61) rfl)
theorem zm10_62 : Cond.methodLink RL 82 yX7_moneyOf ∈ zAll := zin10 (List.mem_of_getElem? (i := 62) rfl)
theorem zm10_63 : Cond.instanceMethod yX7_moneyOf ∈ zAll := zin10 (List.mem_of_getElem? (i := 63) rfl)
theorem zm10_64 : Cond.selects RX7 yX7_moneyOf yX7_moneyOf ∈ zAll := zin10 (List.mem_of_getElem? (i := 64) rfl)
theorem zm10_65 : Cond.codeWith yL_moneyOf cL_moneyOf 4 (some .int) [(0, 9, 12, 19)] ∈ zAll := zin10 (List.mem_of_getElem? (i := 65) rfl)
theorem zm10_66 : Cond.classLink RL 88 "java/util/NoSuchElementException" ∈ zAll := zin10 (List.mem_of_getElem? (i := 66) rfl)
theorem zm10_67 : Cond.methodLink RL 85 yX7_planCost ∈ zAll := zin10 (List.mem_of_getElem? (i := 67) rfl)
theorem zm10_68 : Cond.instanceMethod yX7_planCost ∈ zAll := zin10 (List.mem_of_getElem? (i := 68) rfl)
theorem zm10_69 : Cond.selects RX7 yX7_planCost yX7_planCost ∈ zAll := zin10 (List.mem_of_getElem? (i := 69) rfl)
theorem zm11_0 : Cond.codeWith yL_planCost cL_planCost 4 (some .int) [(0, 9, 12, 13), (0, 9, 15, 88)] ∈ zAll := zin11 (List.mem_of_getElem? (i := 0) rfl)
theorem zm11_1 : Cond.methodLink RL 90 yX7_isPlanned ∈ zAll := zin11 (List.mem_of_getElem? (i := 1) rfl)
theorem zm11_2 : Cond.instanceMethod yX7_isPlanned ∈ zAll := zin11 (List.mem_of_getElem? (i := 2) rfl)
theorem zm11_3 : Cond.selects RX7 yX7_isPlanned yX7_isPlanned ∈ zAll := zin11 (List.mem_of_getElem? (i := 3) rfl)
theorem zm11_4 : Cond.codeWith yL_isPlanned cL_isPlanned 5 (some .int) [(0, 17, 20, 13), (0, 17, 24, 19), (0, 17, 28, 88)] ∈ zAll := zin11 (List.mem_of_getElem? (i := 4) rfl)
theorem zm11_5 : Cond.codeWith yL_joiningShare cL_joiningShare 3 (some .int) [(0, 8, 11, 98)] ∈ zAll := zin11 (List.mem_of_getElem? (i := 5) rfl)
theorem zm11_6 : Cond.classLink RL 98 "java/lang/ArithmeticException" ∈ zAll := zin11 (List.mem_of_getElem? (i := 6) rfl)
theorem zm11_7 : Cond.methodLink RL 94 yX7_joiningShare ∈ zAll := zin11 (List.mem_of_getElem? (i := 7) rfl)
theorem zm11_8 : Cond.instanceMethod yX7_joiningShare ∈ zAll := zin11 (List.mem_of_getElem? (i := 8) rfl)
theorem zm11_9 : Cond.selects RX7 yX7_joiningShare yX7_joiningShare ∈ zAll := zin11 (List.mem_of_getElem? (i := 9) rfl)
theorem zm11_10 : Cond.codeWith yL_meanNoise cL_meanNoise 3 (some .int) [(0, 7, 10, 98)] ∈ zAll := zin11 (List.mem_of_getElem? (i := 10) rfl)
theorem zm11_11 : Cond.methodLink RL 100 yX7_meanNoise ∈ zAll := zin11 (List.mem_of_getElem? (i := 11) rfl)
theorem zm11_12 : Cond.instanceMethod yX7_meanNoise ∈ zAll := zin11 (List.mem_of_getElem? (i := 12) rfl)
theorem zm11_13 : Cond.selects RX7 yX7_meanNoise yX7_meanNoise ∈ zAll := zin11 (List.mem_of_getElem? (i := 13) rfl)
theorem zm11_14 : Cond.classLink RL 8 RX7 ∈ zAll := zin11 (List.mem_of_getElem? (i := 14) rfl)
theorem zm11_15 : Cond.instantiable RX7 6 ∈ zAll := zin11 (List.mem_of_getElem? (i := 15) rfl)
theorem zm11_16 : Cond.classLink RL 105 RX8 ∈ zAll := zin11 (List.mem_of_getElem? (i := 16) rfl)
theorem zm11_17 : Cond.instantiable RX8 37 ∈ zAll := zin11 (List.mem_of_getElem? (i := 17) rfl)
theorem zm11_18 : Cond.arrayClass .long ∈ zAll := zin11 (List.mem_of_getElem? (i := 18) rfl)
theorem zm11_19 : Cond.arrayClass .double ∈ zAll := zin11 (List.mem_of_getElem? (i := 19) rfl)
theorem zm11_20 : Cond.methodLink RL 104 yX7_init ∈ zAll := zin11 (List.mem_of_getElem? (i := 20) rfl)
theorem zm11_21 : Cond.instanceMethod yX7_init ∈ zAll := zin11 (List.mem_of_getElem? (i := 21) rfl)
theorem zm11_22 : Cond.methodLink RL 107 yX8_init ∈ zAll := zin11 (List.mem_of_getElem? (i := 22) rfl)
theorem zm11_23 : Cond.instanceMethod yX8_init ∈ zAll := zin11 (List.mem_of_getElem? (i := 23) rfl)
theorem zm11_24 : Cond.methodLink RL 108 yL_newHouse ∈ zAll := zin11 (List.mem_of_getElem? (i := 24) rfl)
theorem zm11_25 : Cond.static yL_newHouse ∈ zAll := zin11 (List.mem_of_getElem? (i := 25) rfl)
theorem zm11_26 : Cond.initialized RL ∈ zAll := zin11 (List.mem_of_getElem? (i := 26) rfl)
theorem zm11_27 : Cond.methodLink RL 113 yX8_newHouse ∈ zAll := zin11 (List.mem_of_getElem? (i := 27) rfl)
theorem zm11_28 : Cond.instanceMethod yX8_newHouse ∈ zAll := zin11 (List.mem_of_getElem? (i := 28) rfl)
theorem zm11_29 : Cond.selects RX8 yX8_newHouse yX8_newHouse ∈ zAll := zin11 (List.mem_of_getElem? (i := 29) rfl)
theorem zm11_30 : Cond.methodLink RL 114 yX8_thrown ∈ zAll := zin11 (List.mem_of_getElem? (i := 30) rfl)
theorem zm11_31 : Cond.instanceMethod yX8_thrown ∈ zAll := zin11 (List.mem_of_getElem? (i := 31) rfl)
theorem zm11_32 : Cond.selects RX8 yX8_thrown yX8_thrown ∈ zAll := zin11 (List.mem_of_getElem? (i := 32) rfl)
theorem zm11_33 : Cond.methodLink RL 117 yL_seatPayer ∈ zAll := zin11 (List.mem_of_getElem? (i := 33) rfl)
theorem zm11_34 : Cond.static yL_seatPayer ∈ zAll := zin11 (List.mem_of_getElem? (i := 34) rfl)
theorem zm11_35 : Cond.methodLink RL 120 yX8_seatPayer ∈ zAll := zin11 (List.mem_of_getElem? (i := 35) rfl)
theorem zm11_36 : Cond.instanceMethod yX8_seatPayer ∈ zAll := zin11 (List.mem_of_getElem? (i := 36) rfl)
theorem zm11_37 : Cond.selects RX8 yX8_seatPayer yX8_seatPayer ∈ zAll := zin11 (List.mem_of_getElem? (i := 37) rfl)
theorem zm11_38 : Cond.methodLink RL 121 yL_seatRival ∈ zAll := zin11 (List.mem_of_getElem? (i := 38) rfl)
theorem zm11_39 : Cond.static yL_seatRival ∈ zAll := zin11 (List.mem_of_getElem? (i := 39) rfl)
theorem zm11_40 : Cond.methodLink RL 123 yX8_seatRival ∈ zAll := zin11 (List.mem_of_getElem? (i := 40) rfl)
theorem zm11_41 : Cond.instanceMethod yX8_seatRival ∈ zAll := zin11 (List.mem_of_getElem? (i := 41) rfl)
theorem zm11_42 : Cond.selects RX8 yX8_seatRival yX8_seatRival ∈ zAll := zin11 (List.mem_of_getElem? (i := 42) rfl)
theorem zm11_43 : Cond.methodLink RL 124 yL_seatHand ∈ zAll := zin11 (List.mem_of_getElem? (i := 43) rfl)
theorem zm11_44 : Cond.static yL_seatHand ∈ zAll := zin11 (List.mem_of_getElem? (i := 44) rfl)
theorem zm11_45 : Cond.methodLink RL 126 yX8_seatHand ∈ zAll := zin11 (List.mem_of_getElem? (i := 45) rfl)
theorem zm11_46 : Cond.instanceMethod yX8_seatHand ∈ zAll := zin11 (List.mem_of_getElem? (i := 46) rfl)
theorem zm11_47 : Cond.selects RX8 yX8_seatHand yX8_seatHand ∈ zAll := zin11 (List.mem_of_getElem? (i := 47) rfl)
theorem zm11_48 : Cond.methodLink RL 127 yL_clearSeat ∈ zAll := zin11 (List.mem_of_getElem? (i := 48) rfl)
theorem zm11_49 : Cond.static yL_clearSeat ∈ zAll := zin11 (List.mem_of_getElem? (i := 49) rfl)
theorem zm11_50 : Cond.methodLink RL 129 yX8_clearSeat ∈ zAll := zin11 (List.mem_of_getElem? (i := 50) rfl)
theorem zm11_51 : Cond.instanceMethod yX8_clearSeat ∈ zAll := zin11 (List.mem_of_getElem? (i := 51) rfl)
theorem zm11_52 : Cond.selects RX8 yX8_clearSeat yX8_clearSeat ∈ zAll := zin11 (List.mem_of_getElem? (i := 52) rfl)
theorem zm11_53 : Cond.methodLink RL 130 yL_seatAt ∈ zAll := zin11 (List.mem_of_getElem? (i := 53) rfl)
theorem zm11_54 : Cond.static yL_seatAt ∈ zAll := zin11 (List.mem_of_getElem? (i := 54) rfl)
theorem zm11_55 : Cond.methodLink RL 132 yX8_seatAt ∈ zAll := zin11 (List.mem_of_getElem? (i := 55) rfl)
theorem zm11_56 : Cond.instanceMethod yX8_seatAt ∈ zAll := zin11 (List.mem_of_getElem? (i := 56) rfl)
theorem zm11_57 : Cond.selects RX8 yX8_seatAt yX8_seatAt ∈ zAll := zin11 (List.mem_of_getElem? (i := 57) rfl)
theorem zm11_58 : Cond.methodLink RL 133 yL_addHand ∈ zAll := zin11 (List.mem_of_getElem? (i := 58) rfl)
theorem zm11_59 : Cond.static yL_addHand ∈ zAll := zin11 (List.mem_of_getElem? (i := 59) rfl)
theorem zm11_60 : Cond.methodLink RL 136 yX8_addHand ∈ zAll := zin11 (List.mem_of_getElem? (i := 60) rfl)
theorem zm11_61 : Cond.instanceMethod yX8_addHand ∈ zAll := zin11 (List.mem_of_getElem? (i := 61) rfl)
theorem zm11_62 : Cond.selects RX8 yX8_addHand yX8_addHand ∈ zAll := zin11 (List.mem_of_getElem? (i := 62) rfl)
theorem zm11_63 : Cond.methodLink RL 137 yL_isSeated ∈ zAll := zin11 (List.mem_of_getElem? (i := 63) rfl)
theorem zm11_64 : Cond.static yL_isSeated ∈ zAll := zin11 (List.mem_of_getElem? (i := 64) rfl)
theorem zm11_65 : Cond.methodLink RL 140 yX8_isSeated ∈ zAll := zin11 (List.mem_of_getElem? (i := 65) rfl)
theorem zm11_66 : Cond.instanceMethod yX8_isSeated ∈ zAll := zin11 (List.mem_of_getElem? (i := 66) rfl)
theorem zm11_67 : Cond.selects RX8 yX8_isSeated yX8_isSeated ∈ zAll := zin11 (List.mem_of_getElem? (i := 67) rfl)
theorem zm11_68 : Cond.methodLink RL 141 yL_addSinger ∈ zAll := zin11 (List.mem_of_getElem? (i := 68) rfl)
theorem zm11_69 : Cond.static yL_addSinger ∈ zAll := zin11 (List.mem_of_getElem? (i := 69) rfl)
theorem zm12_0 : Cond.methodLink RL 143 yX8_addSinger ∈ zAll := zin12 (List.mem_of_getElem? (i := 0) rfl)
theorem zm12_1 : Cond.instanceMethod yX8_addSinger ∈ zAll := zin12 (List.mem_of_getElem? (i := 1) rfl)
theorem zm12_2 : Cond.selects RX8 yX8_addSinger yX8_addSinger ∈ zAll := zin12 (List.mem_of_getElem? (i := 2) rfl)
theorem zm12_3 : Cond.methodLink RL 144 yL_addCue ∈ zAll := zin12 (List.mem_of_getElem? (i := 3) rfl)
theorem zm12_4 : Cond.static yL_addCue ∈ zAll := zin12 (List.mem_of_getElem? (i := 4) rfl)
theorem zm12_5 : Cond.methodLink RL 147 yX8_addCue ∈ zAll := zin12 (List.mem_of_getElem? (i := 5) rfl)
theorem zm12_6 : Cond.instanceMethod yX8_addCue ∈ zAll := zin12 (List.mem_of_getElem? (i := 6) rfl)
theorem zm12_7 : Cond.selects RX8 yX8_addCue yX8_addCue ∈ zAll := zin12 (List.mem_of_getElem? (i := 7) rfl)
theorem zm12_8 : Cond.methodLink RL 148 yL_setLevel ∈ zAll := zin12 (List.mem_of_getElem? (i := 8) rfl)
theorem zm12_9 : Cond.static yL_setLevel ∈ zAll := zin12 (List.mem_of_getElem? (i := 9) rfl)
theorem zm12_10 : Cond.methodLink RL 150 yX8_setLevel ∈ zAll := zin12 (List.mem_of_getElem? (i := 10) rfl)
theorem zm12_11 : Cond.instanceMethod yX8_setLevel ∈ zAll := zin12 (List.mem_of_getElem? (i := 11) rfl)
theorem zm12_12 : Cond.selects RX8 yX8_setLevel yX8_setLevel ∈ zAll := zin12 (List.mem_of_getElem? (i := 12) rfl)
theorem zm12_13 : Cond.methodLink RL 151 yL_run ∈ zAll := zin12 (List.mem_of_getElem? (i := 13) rfl)
theorem zm12_14 : Cond.static yL_run ∈ zAll := zin12 (List.mem_of_getElem? (i := 14) rfl)
theorem zm12_15 : Cond.methodLink RL 153 yX8_run ∈ zAll := zin12 (List.mem_of_getElem? (i := 15) rfl)
theorem zm12_16 : Cond.instanceMethod yX8_run ∈ zAll := zin12 (List.mem_of_getElem? (i := 16) rfl)
theorem zm12_17 : Cond.selects RX8 yX8_run yX8_run ∈ zAll := zin12 (List.mem_of_getElem? (i := 17) rfl)
theorem zm12_18 : Cond.methodLink RL 154 yL_noiseAt ∈ zAll := zin12 (List.mem_of_getElem? (i := 18) rfl)
theorem zm12_19 : Cond.static yL_noiseAt ∈ zAll := zin12 (List.mem_of_getElem? (i := 19) rfl)
theorem zm12_20 : Cond.methodLink RL 156 yX8_noiseAt ∈ zAll := zin12 (List.mem_of_getElem? (i := 20) rfl)
theorem zm12_21 : Cond.instanceMethod yX8_noiseAt ∈ zAll := zin12 (List.mem_of_getElem? (i := 21) rfl)
theorem zm12_22 : Cond.selects RX8 yX8_noiseAt yX8_noiseAt ∈ zAll := zin12 (List.mem_of_getElem? (i := 22) rfl)
theorem zm12_23 : Cond.methodLink RL 157 yX7_noise ∈ zAll := zin12 (List.mem_of_getElem? (i := 23) rfl)
theorem zm12_24 : Cond.instanceMethod yX7_noise ∈ zAll := zin12 (List.mem_of_getElem? (i := 24) rfl)
theorem zm12_25 : Cond.selects RX7 yX7_noise yX7_noise ∈ zAll := zin12 (List.mem_of_getElem? (i := 25) rfl)
theorem zm12_26 : Cond.methodLink RL 160 yX8_noise ∈ zAll := zin12 (List.mem_of_getElem? (i := 26) rfl)
theorem zm12_27 : Cond.instanceMethod yX8_noise ∈ zAll := zin12 (List.mem_of_getElem? (i := 27) rfl)
theorem zm12_28 : Cond.selects RX8 yX8_noise yX8_noise ∈ zAll := zin12 (List.mem_of_getElem? (i := 28) rfl)
theorem zm12_29 : Cond.methodLink RL 161 yX7_joining ∈ zAll := zin12 (List.mem_of_getElem? (i := 29) rfl)
theorem zm12_30 : Cond.instanceMethod yX7_joining ∈ zAll := zin12 (List.mem_of_getElem? (i := 30) rfl)
theorem zm12_31 : Cond.selects RX7 yX7_joining yX7_joining ∈ zAll := zin12 (List.mem_of_getElem? (i := 31) rfl)
theorem zm12_32 : Cond.methodLink RL 164 yX8_joining ∈ zAll := zin12 (List.mem_of_getElem? (i := 32) rfl)
theorem zm12_33 : Cond.instanceMethod yX8_joining ∈ zAll := zin12 (List.mem_of_getElem? (i := 33) rfl)
theorem zm12_34 : Cond.selects RX8 yX8_joining yX8_joining ∈ zAll := zin12 (List.mem_of_getElem? (i := 34) rfl)
theorem zm12_35 : Cond.methodLink RL 165 yX7_hisses ∈ zAll := zin12 (List.mem_of_getElem? (i := 35) rfl)
theorem zm12_36 : Cond.instanceMethod yX7_hisses ∈ zAll := zin12 (List.mem_of_getElem? (i := 36) rfl)
theorem zm12_37 : Cond.selects RX7 yX7_hisses yX7_hisses ∈ zAll := zin12 (List.mem_of_getElem? (i := 37) rfl)
theorem zm12_38 : Cond.methodLink RL 168 yX8_hisses ∈ zAll := zin12 (List.mem_of_getElem? (i := 38) rfl)
theorem zm12_39 : Cond.instanceMethod yX8_hisses ∈ zAll := zin12 (List.mem_of_getElem? (i := 39) rfl)
theorem zm12_40 : Cond.selects RX8 yX8_hisses yX8_hisses ∈ zAll := zin12 (List.mem_of_getElem? (i := 40) rfl)
theorem zm12_41 : Cond.methodLink RL 169 yL_tiredness ∈ zAll := zin12 (List.mem_of_getElem? (i := 41) rfl)
theorem zm12_42 : Cond.static yL_tiredness ∈ zAll := zin12 (List.mem_of_getElem? (i := 42) rfl)
theorem zm12_43 : Cond.methodLink RL 171 yX8_tiredness ∈ zAll := zin12 (List.mem_of_getElem? (i := 43) rfl)
theorem zm12_44 : Cond.instanceMethod yX8_tiredness ∈ zAll := zin12 (List.mem_of_getElem? (i := 44) rfl)
theorem zm12_45 : Cond.selects RX8 yX8_tiredness yX8_tiredness ∈ zAll := zin12 (List.mem_of_getElem? (i := 45) rfl)
theorem zm12_46 : Cond.methodLink RL 172 yL_callsOf ∈ zAll := zin12 (List.mem_of_getElem? (i := 46) rfl)
theorem zm12_47 : Cond.static yL_callsOf ∈ zAll := zin12 (List.mem_of_getElem? (i := 47) rfl)
theorem zm12_48 : Cond.methodLink RL 174 yX8_callsOf ∈ zAll := zin12 (List.mem_of_getElem? (i := 48) rfl)
theorem zm12_49 : Cond.instanceMethod yX8_callsOf ∈ zAll := zin12 (List.mem_of_getElem? (i := 49) rfl)
theorem zm12_50 : Cond.selects RX8 yX8_callsOf yX8_callsOf ∈ zAll := zin12 (List.mem_of_getElem? (i := 50) rfl)
theorem zm12_51 : Cond.methodLink RL 175 yX7_calls ∈ zAll := zin12 (List.mem_of_getElem? (i := 51) rfl)
theorem zm12_52 : Cond.instanceMethod yX7_calls ∈ zAll := zin12 (List.mem_of_getElem? (i := 52) rfl)
theorem zm12_53 : Cond.selects RX7 yX7_calls yX7_calls ∈ zAll := zin12 (List.mem_of_getElem? (i := 53) rfl)
theorem zm12_54 : Cond.methodLink RL 178 yX8_calls ∈ zAll := zin12 (List.mem_of_getElem? (i := 54) rfl)
theorem zm12_55 : Cond.instanceMethod yX8_calls ∈ zAll := zin12 (List.mem_of_getElem? (i := 55) rfl)
theorem zm12_56 : Cond.selects RX8 yX8_calls yX8_calls ∈ zAll := zin12 (List.mem_of_getElem? (i := 56) rfl)
theorem zm12_57 : Cond.methodLink RL 179 yX7_suspicions ∈ zAll := zin12 (List.mem_of_getElem? (i := 57) rfl)
theorem zm12_58 : Cond.instanceMethod yX7_suspicions ∈ zAll := zin12 (List.mem_of_getElem? (i := 58) rfl)
theorem zm12_59 : Cond.selects RX7 yX7_suspicions yX7_suspicions ∈ zAll := zin12 (List.mem_of_getElem? (i := 59) rfl)
theorem zm12_60 : Cond.methodLink RL 182 yX8_suspicions ∈ zAll := zin12 (List.mem_of_getElem? (i := 60) rfl)
theorem zm12_61 : Cond.instanceMethod yX8_suspicions ∈ zAll := zin12 (List.mem_of_getElem? (i := 61) rfl)
theorem zm12_62 : Cond.selects RX8 yX8_suspicions yX8_suspicions ∈ zAll := zin12 (List.mem_of_getElem? (i := 62) rfl)
theorem zm12_63 : Cond.methodLink RL 183 yX7_areFoundOut ∈ zAll := zin12 (List.mem_of_getElem? (i := 63) rfl)
theorem zm12_64 : Cond.instanceMethod yX7_areFoundOut ∈ zAll := zin12 (List.mem_of_getElem? (i := 64) rfl)
theorem zm12_65 : Cond.selects RX7 yX7_areFoundOut yX7_areFoundOut ∈ zAll := zin12 (List.mem_of_getElem? (i := 65) rfl)
theorem zm12_66 : Cond.methodLink RL 187 yX8_areFoundOut ∈ zAll := zin12 (List.mem_of_getElem? (i := 66) rfl)
theorem zm12_67 : Cond.instanceMethod yX8_areFoundOut ∈ zAll := zin12 (List.mem_of_getElem? (i := 67) rfl)
theorem zm12_68 : Cond.selects RX8 yX8_areFoundOut yX8_areFoundOut ∈ zAll := zin12 (List.mem_of_getElem? (i := 68) rfl)
theorem zm12_69 : Cond.methodLink RL 188 yL_endEvening ∈ zAll := zin12 (List.mem_of_getElem? (i := 69) rfl)
theorem zm13_0 : Cond.static yL_endEvening ∈ zAll := zin13 (List.mem_of_getElem? (i := 0) rfl)
theorem zm13_1 : Cond.methodLink RL 191 yX8_endEvening ∈ zAll := zin13 (List.mem_of_getElem? (i := 1) rfl)
theorem zm13_2 : Cond.instanceMethod yX8_endEvening ∈ zAll := zin13 (List.mem_of_getElem? (i := 2) rfl)
theorem zm13_3 : Cond.selects RX8 yX8_endEvening yX8_endEvening ∈ zAll := zin13 (List.mem_of_getElem? (i := 3) rfl)
theorem zm13_4 : Cond.methodLink RL 192 yL_pay ∈ zAll := zin13 (List.mem_of_getElem? (i := 4) rfl)
theorem zm13_5 : Cond.static yL_pay ∈ zAll := zin13 (List.mem_of_getElem? (i := 5) rfl)
theorem zm13_6 : Cond.methodLink RL 194 yX8_pay ∈ zAll := zin13 (List.mem_of_getElem? (i := 6) rfl)
theorem zm13_7 : Cond.instanceMethod yX8_pay ∈ zAll := zin13 (List.mem_of_getElem? (i := 7) rfl)
theorem zm13_8 : Cond.selects RX8 yX8_pay yX8_pay ∈ zAll := zin13 (List.mem_of_getElem? (i := 8) rfl)
theorem zm13_9 : Cond.methodLink RL 195 yL_owed ∈ zAll := zin13 (List.mem_of_getElem? (i := 9) rfl)
theorem zm13_10 : Cond.static yL_owed ∈ zAll := zin13 (List.mem_of_getElem? (i := 10) rfl)
theorem zm13_11 : Cond.methodLink RL 197 yX8_owed ∈ zAll := zin13 (List.mem_of_getElem? (i := 11) rfl)
theorem zm13_12 : Cond.instanceMethod yX8_owed ∈ zAll := zin13 (List.mem_of_getElem? (i := 12) rfl)
theorem zm13_13 : Cond.selects RX8 yX8_owed yX8_owed ∈ zAll := zin13 (List.mem_of_getElem? (i := 13) rfl)
theorem zm13_14 : Cond.methodLink RL 198 yX7_purse ∈ zAll := zin13 (List.mem_of_getElem? (i := 14) rfl)
theorem zm13_15 : Cond.instanceMethod yX7_purse ∈ zAll := zin13 (List.mem_of_getElem? (i := 15) rfl)
theorem zm13_16 : Cond.selects RX7 yX7_purse yX7_purse ∈ zAll := zin13 (List.mem_of_getElem? (i := 16) rfl)
theorem zm13_17 : Cond.methodLink RL 201 yX8_purse ∈ zAll := zin13 (List.mem_of_getElem? (i := 17) rfl)
theorem zm13_18 : Cond.instanceMethod yX8_purse ∈ zAll := zin13 (List.mem_of_getElem? (i := 18) rfl)
theorem zm13_19 : Cond.selects RX8 yX8_purse yX8_purse ∈ zAll := zin13 (List.mem_of_getElem? (i := 19) rfl)
theorem zm13_20 : Cond.methodLink RL 202 yL_share ∈ zAll := zin13 (List.mem_of_getElem? (i := 20) rfl)
theorem zm13_21 : Cond.static yL_share ∈ zAll := zin13 (List.mem_of_getElem? (i := 21) rfl)
theorem zm13_22 : Cond.methodLink RL 204 yX8_share ∈ zAll := zin13 (List.mem_of_getElem? (i := 22) rfl)
theorem zm13_23 : Cond.instanceMethod yX8_share ∈ zAll := zin13 (List.mem_of_getElem? (i := 23) rfl)
theorem zm13_24 : Cond.selects RX8 yX8_share yX8_share ∈ zAll := zin13 (List.mem_of_getElem? (i := 24) rfl)
theorem zm13_25 : Cond.methodLink RL 205 yL_moneyOf ∈ zAll := zin13 (List.mem_of_getElem? (i := 25) rfl)
theorem zm13_26 : Cond.static yL_moneyOf ∈ zAll := zin13 (List.mem_of_getElem? (i := 26) rfl)
theorem zm13_27 : Cond.methodLink RL 207 yX8_moneyOf ∈ zAll := zin13 (List.mem_of_getElem? (i := 27) rfl)
theorem zm13_28 : Cond.instanceMethod yX8_moneyOf ∈ zAll := zin13 (List.mem_of_getElem? (i := 28) rfl)
theorem zm13_29 : Cond.selects RX8 yX8_moneyOf yX8_moneyOf ∈ zAll := zin13 (List.mem_of_getElem? (i := 29) rfl)
theorem zm13_30 : Cond.methodLink RL 208 yX7_chiefs ∈ zAll := zin13 (List.mem_of_getElem? (i := 30) rfl)
theorem zm13_31 : Cond.instanceMethod yX7_chiefs ∈ zAll := zin13 (List.mem_of_getElem? (i := 31) rfl)
theorem zm13_32 : Cond.selects RX7 yX7_chiefs yX7_chiefs ∈ zAll := zin13 (List.mem_of_getElem? (i := 32) rfl)
theorem zm13_33 : Cond.methodLink RL 211 yX8_chiefs ∈ zAll := zin13 (List.mem_of_getElem? (i := 33) rfl)
theorem zm13_34 : Cond.instanceMethod yX8_chiefs ∈ zAll := zin13 (List.mem_of_getElem? (i := 34) rfl)
theorem zm13_35 : Cond.selects RX8 yX8_chiefs yX8_chiefs ∈ zAll := zin13 (List.mem_of_getElem? (i := 35) rfl)
theorem zm13_36 : Cond.methodLink RL 212 yL_planCost ∈ zAll := zin13 (List.mem_of_getElem? (i := 36) rfl)
theorem zm13_37 : Cond.static yL_planCost ∈ zAll := zin13 (List.mem_of_getElem? (i := 37) rfl)
theorem zm13_38 : Cond.methodLink RL 214 yX8_planCost ∈ zAll := zin13 (List.mem_of_getElem? (i := 38) rfl)
theorem zm13_39 : Cond.instanceMethod yX8_planCost ∈ zAll := zin13 (List.mem_of_getElem? (i := 39) rfl)
theorem zm13_40 : Cond.selects RX8 yX8_planCost yX8_planCost ∈ zAll := zin13 (List.mem_of_getElem? (i := 40) rfl)
theorem zm13_41 : Cond.methodLink RL 215 yL_isPlanned ∈ zAll := zin13 (List.mem_of_getElem? (i := 41) rfl)
theorem zm13_42 : Cond.static yL_isPlanned ∈ zAll := zin13 (List.mem_of_getElem? (i := 42) rfl)
theorem zm13_43 : Cond.methodLink RL 217 yX8_isPlanned ∈ zAll := zin13 (List.mem_of_getElem? (i := 43) rfl)
theorem zm13_44 : Cond.instanceMethod yX8_isPlanned ∈ zAll := zin13 (List.mem_of_getElem? (i := 44) rfl)
theorem zm13_45 : Cond.selects RX8 yX8_isPlanned yX8_isPlanned ∈ zAll := zin13 (List.mem_of_getElem? (i := 45) rfl)
theorem zm13_46 : Cond.methodLink RL 218 yX7_checksum ∈ zAll := zin13 (List.mem_of_getElem? (i := 46) rfl)
theorem zm13_47 : Cond.instanceMethod yX7_checksum ∈ zAll := zin13 (List.mem_of_getElem? (i := 47) rfl)
theorem zm13_48 : Cond.selects RX7 yX7_checksum yX7_checksum ∈ zAll := zin13 (List.mem_of_getElem? (i := 48) rfl)
theorem zm13_49 : Cond.methodLink RL 222 yX8_checksum ∈ zAll := zin13 (List.mem_of_getElem? (i := 49) rfl)
theorem zm13_50 : Cond.instanceMethod yX8_checksum ∈ zAll := zin13 (List.mem_of_getElem? (i := 50) rfl)
theorem zm13_51 : Cond.selects RX8 yX8_checksum yX8_checksum ∈ zAll := zin13 (List.mem_of_getElem? (i := 51) rfl)
theorem zm13_52 : Cond.methodLink RL 223 yL_joiningShare ∈ zAll := zin13 (List.mem_of_getElem? (i := 52) rfl)
theorem zm13_53 : Cond.static yL_joiningShare ∈ zAll := zin13 (List.mem_of_getElem? (i := 53) rfl)
theorem zm13_54 : Cond.methodLink RL 226 yX8_joiningShare ∈ zAll := zin13 (List.mem_of_getElem? (i := 54) rfl)
theorem zm13_55 : Cond.instanceMethod yX8_joiningShare ∈ zAll := zin13 (List.mem_of_getElem? (i := 55) rfl)
theorem zm13_56 : Cond.selects RX8 yX8_joiningShare yX8_joiningShare ∈ zAll := zin13 (List.mem_of_getElem? (i := 56) rfl)
theorem zm13_57 : Cond.methodLink RL 227 yL_meanNoise ∈ zAll := zin13 (List.mem_of_getElem? (i := 57) rfl)
theorem zm13_58 : Cond.static yL_meanNoise ∈ zAll := zin13 (List.mem_of_getElem? (i := 58) rfl)
theorem zm13_59 : Cond.methodLink RL 229 yX8_meanNoise ∈ zAll := zin13 (List.mem_of_getElem? (i := 59) rfl)
theorem zm13_60 : Cond.instanceMethod yX8_meanNoise ∈ zAll := zin13 (List.mem_of_getElem? (i := 60) rfl)
theorem zm13_61 : Cond.selects RX8 yX8_meanNoise yX8_meanNoise ∈ zAll := zin13 (List.mem_of_getElem? (i := 61) rfl)
theorem zm13_62 : Cond.methodLink RL 230 yX7_isSound ∈ zAll := zin13 (List.mem_of_getElem? (i := 62) rfl)
theorem zm13_63 : Cond.instanceMethod yX7_isSound ∈ zAll := zin13 (List.mem_of_getElem? (i := 63) rfl)
theorem zm13_64 : Cond.selects RX7 yX7_isSound yX7_isSound ∈ zAll := zin13 (List.mem_of_getElem? (i := 64) rfl)
theorem zm13_65 : Cond.methodLink RL 233 yX8_isSound ∈ zAll := zin13 (List.mem_of_getElem? (i := 65) rfl)
theorem zm13_66 : Cond.instanceMethod yX8_isSound ∈ zAll := zin13 (List.mem_of_getElem? (i := 66) rfl)
theorem zm13_67 : Cond.selects RX8 yX8_isSound yX8_isSound ∈ zAll := zin13 (List.mem_of_getElem? (i := 67) rfl)
theorem zu_RX0 : ∀ w ∈ u_ws RX0 TX0 5, w ∈ zAll := fun _ h => zin14 h
theorem zu_RX1 : ∀ w ∈ u_ws RX1 TX1 7, w ∈ zAll := fun _ h => zin15 h
theorem zu_RX2 : ∀ w ∈ u_ws RX2 TX2 6, w ∈ zAll := fun _ h => zin16 h
theorem zu_RX3 : ∀ w ∈ u_ws RX3 TX3 3, w ∈ zAll := fun _ h => zin17 h
theorem zu_RX4 : ∀ w ∈ u_ws RX4 TX4 9, w ∈ zAll := fun _ h => zin18 h
theorem zu_RX5 : ∀ w ∈ u_ws RX5 TX5 4, w ∈ zAll := fun _ h => zin19 h
theorem zu_RX6 : ∀ w ∈ u_ws RX6 TX6 1, w ∈ zAll := fun _ h => zin20 h
theorem zu_RX7 : ∀ w ∈ u_ws RX7 TX7 6, w ∈ zAll := fun _ h => zin21 h
theorem zu_RX8 : ∀ w ∈ u_ws RX8 TX8 37, w ∈ zAll := fun _ h => zin22 h
theorem zu_RJx00060 : ∀ w ∈ u_ws RJx00060 TJx00060 6, w ∈ zAll := fun _ h => zin23 h
theorem zu_RJ0 : ∀ w ∈ u_ws RJ0 TJ0 2, w ∈ zAll := fun _ h => zin24 h
theorem zu_RJx4a65c : ∀ w ∈ u_ws RJx4a65c TJx4a65c 3, w ∈ zAll := fun _ h => zin25 h
theorem zt_253 : ∀ w ∈ (vx_atS RX7 253 "java/lang/IllegalArgumentException" ["java/lang/RuntimeException", "java/lang/Exception"]).filter goodWord, w ∈ zAll := fun _ h => zin26 h
theorem zt_260 : ∀ w ∈ (vx_atS RX7 260 "java/lang/IndexOutOfBoundsException" ["java/lang/RuntimeException", "java/lang/Exception"]).filter goodWord, w ∈ zAll := fun _ h => zin27 h
theorem zt_82 : ∀ w ∈ (vx_atS RX7 82 "java/lang/UnsupportedOperationException" ["java/lang/RuntimeException", "java/lang/Exception"]).filter goodWord, w ∈ zAll := fun _ h => zin28 h
theorem zt_108 : ∀ w ∈ (vx_atS RX7 108 "java/lang/IllegalStateException" ["java/lang/RuntimeException", "java/lang/Exception"]).filter goodWord, w ∈ zAll := fun _ h => zin29 h
theorem zt_272 : ∀ w ∈ (vx_atS RX7 272 "java/util/NoSuchElementException" ["java/lang/RuntimeException", "java/lang/Exception"]).filter goodWord, w ∈ zAll := fun _ h => zin30 h
theorem zt_242 : ∀ w ∈ (vx_atS RX7 242 "java/lang/ArithmeticException" ["java/lang/RuntimeException", "java/lang/Exception"]).filter goodWord, w ∈ zAll := fun _ h => zin31 h
end
section
/-! ===== the abstract heap: cells by a number each, addresses aside; judgements over it ===== -/
/-- the fixed things: class numbers and slots, the classes of arrays by their kind, the least address of the run's own cells, the address of the lists' shared empty array, that of the class object of rows of objects -/
abbrev zG : Type := va_G × (Nat → ClassId) × Nat × Nat × Nat
def zTy (t : Nat) : FieldType := match t with
  | 0 => .int
  | 1 => .char
  | 2 => .boolean
  | 3 => .long
  | 4 => .double
  | 5 => .object "ClaqueRow$Seat"
  | _ => .object "java/lang/Object"
abbrev zE : Type := (Nat × vp_A) ⊕ (Nat × List Value)
abbrev zH : Type := Nat → Option zE
def zEn (G : zG) (e : zE) : va_E := match e with
  | .inl a => .inl (G.2.1 a.1, a.2)
  | .inr o => .inr o
def zA (G : zG) (q : Nat) : Prop := G.2.2.1 ≤ q
def zRep (G : zG) (w : zH) (ad : Nat → Nat) (H : Heap) : Prop :=
  (∀ i e, w i = some e → zA G (ad i) ∧ va_at G.1 vwCl (ad i, zEn G e) H) ∧
  (∀ i j, w i ≠ none → w j ≠ none → ad i = ad j → i = j)
def zTys (G : zG) : List (ClassId × FieldType) := (List.range 7).map (fun t => (G.2.1 t, zTy t))
theorem zTys_get (G : zG) {t : Nat} (h : t < 7) : (zTys G)[t]? = some (G.2.1 t, zTy t) := by
  simp [zTys, h]
/-- the exceptions, which of them are which, and the texts -/
def zExs : List String := ["java/lang/IllegalArgumentException", "java/lang/IndexOutOfBoundsException", "java/lang/UnsupportedOperationException", "java/lang/IllegalStateException", "java/util/NoSuchElementException", "java/lang/ArithmeticException"]
def zStr : List (Nat × String) := [(251, "a number is out of range"), (258, "there is no such seat"), (261, "there is no such hand"), (80, "this hand is there"), (254, "there is no such kind"), (106, "there are 12 hands"), (116, "there are 6 singers"), (263, "there is no such singer"), (129, "the tick has gone by"), (134, "there are 12 cues"), (243, "there is no house"), (163, "there is no payer"), (194, "nothing is owed"), (202, "the purse is empty"), (270, "there is no plan"), (240, "there are no payers")]
def zNst : List (String × Nat × MethodName × String) := [("ClaqueRow$House", 24, ⟨"ClaqueRow$Seat", "<init>", "()V"⟩, "ClaqueRow"), ("ClaqueRow", 18, ⟨"ClaqueRow$Troupe", "<init>", "()V"⟩, "ClaqueRow"), ("ClaqueRow", 32, ⟨"ClaqueRow$Evening", "<init>", "()V"⟩, "ClaqueRow")]
/-- the statics that the run reads: what a throw stores, and the lists' empty array -/
def zSt0 (G : zG) (U : State) (H : Heap) : Prop :=
  vx_Zq Bundle.tN "UNASSIGNED_STACK" Bundle.steD (zA G) U H ∧ vx_Zq Bundle.tN "SUPPRESSED_SENTINEL" Bundle.listD (zA G) U H ∧
  va_Z "java/util/ArrayList" "DEFAULTCAPACITY_EMPTY_ELEMENTDATA" "[Ljava/lang/Object;" (.ref G.2.2.2.1) (zA G) U H ∧ va_T (.object "java/lang/Object") G.2.2.2.1 0 (fun _ => .null) (zA G) U H
def zObs : List String := ["ClaqueRow$Hand", "ClaqueRow$Singer", "ClaqueRow$Cue"]
def zDec : List String := ["java/lang/RuntimeException", "java/lang/Exception", Bundle.tN]
/-- what the tables say beside the words: the texts; which exception is which; nest mates; the class object of rows of objects; arrays over our classes -/
def zSt1 (G : zG) (U : State) : Prop :=
  (∀ t ∈ zStr, ∃ a, vk_R RX7 t.1 t.2 a U) ∧ (∀ E ∈ zExs, va_Nw (.castable E E) U) ∧ (∀ E ∈ zExs, ∀ F ∈ zExs, E ≠ F → va_Nc E F U) ∧
  (∀ t ∈ zNst, va_Nw (.methodLinkNest t.1 t.2.1 t.2.2.1 t.2.2.2) U) ∧ va_Mi "[Ljava/lang/Object;" G.2.2.2.2 U ∧ va_Dc U ∧ va_AO "ClaqueRow$Seat" U ∧ va_AO "java/lang/Object" U ∧ (∀ Y ∈ zDec, va_Nw (.declares (Bundle.initS Y)) U) ∧ (∀ C ∈ zObs, va_Nw (.castable C "java/lang/Object") U)
def zSt (G : zG) (U : State) (H : Heap) : Prop := zSt0 G U H ∧ zSt1 G U
theorem zSt1.moved {G : zG} {u U : State} (hW : u.WarmedH U.vm) (h : zSt1 G u) : zSt1 G U := by
  obtain ⟨h1, h2, h3, h4, h5, h6, h7, h8, h9, h10⟩ := h
  exact ⟨fun t ht => (h1 t ht).elim fun a ha => ⟨a, vk_R.warm hW ha⟩, fun E hE => va_Nw.warmC hW (h2 E hE), fun E hE F hF n => va_Nc.moved hW.alike (h3 E hE F hF n), fun t ht => va_Nw.warmM hW (h4 t ht), va_Mi.moved hW.alike h5, va_Dc.moved hW.alike h6, va_AO.moved hW.alike h7, va_AO.moved hW.alike h8, fun Y hY => va_Nw.warmD hW (h9 Y hY), fun C hC => va_Nw.warmC hW (h10 C hC)⟩
theorem zSt.moved {G : zG} {u U : State} {H : Heap} (hW : u.WarmedH U.vm) (h : zSt G u H) : zSt G U H :=
  ⟨⟨vx_Zq.moved hW.alike h.1.1, vx_Zq.moved hW.alike h.1.2.1, va_Z.moved hW.alike h.1.2.2.1, va_T.moved hW.alike h.1.2.2.2⟩, zSt1.moved hW h.2⟩
theorem zSt.kept {G : zG} {U : State} {H H1 : Heap} (h : zSt G U H) (hq : ∀ a : Nat, a < H.size → ¬ zA G a → H1[a]? = H[a]?) : zSt G U H1 :=
  ⟨⟨vx_Zq.kept h.1.1 hq, vx_Zq.kept h.1.2.1 hq, va_Z.kept h.1.2.2.1 hq, va_T.kept h.1.2.2.2 hq⟩, h.2⟩
/-- what a method may stand on -/
def zWo (G : zG) (w : zH) (ad : Nat → Nat) (U : State) : Prop :=
  zRep G w ad U.heap ∧ G.2.2.1 ≤ U.heap.size ∧ va_K G.1 vwCl (zTys G) U ∧ zSt G U U.heap
def zQ (G : zG) (PQ : Option Value → zH → (Nat → Nat) → Prop) : Array Value → State → Outcome → State → Prop := fun _ st o t =>
  (∃ (r : Option Value) (w : zH) (ad : Nat → Nat), o = .returned r ∧ PQ r w ad ∧ zRep G w ad t.heap) ∧ va_F (zA G) st t
def zX (G : zG) (PX : String → zH → (Nat → Nat) → Prop) : String → State → State → Prop := fun E st t =>
  (∃ (w : zH) (ad : Nat → Nat), PX E w ad ∧ zRep G w ad t.heap) ∧ va_F (zA G) st t
/-- the contract of a method at an abstract world -/
def zCt (G : zG) (l : Launch) (y : MethodName) (ws : List Cond) (rm : Room) (av : List Value) (w : zH) (ad : Nat → Nat) (PQ : Option Value → zH → (Nat → Nat) → Prop) (PX : String → zH → (Nat → Nat) → Prop) : Prop :=
  vx_Met l y ws rm (va_Pc av (zWo G w ad)) (zQ G PQ) (zX G PX) rm.cells rm.slots (zA G)
theorem zWo.moved {G : zG} {w : zH} {ad : Nat → Nat} {u U : State} (hW : u.WarmedH U.vm) (hh : U.heap = u.heap) (h : zWo G w ad u) : zWo G w ad U := by
  obtain ⟨h1, h2, h3, h4⟩ := h
  exact ⟨by rw [hh]; exact h1, by rw [hh]; exact h2, va_K.moved hW.alike h3, by rw [hh]; exact zSt.moved hW h4⟩
theorem zBlind {G : zG} {av : List Value} {w : zH} {ad : Nat → Nat} : FrameBlind (va_Pc av (zWo G w ad)) := by
  intro a U g mk h
  exact ⟨h.1, zWo.moved (u := U) (U := U.calling g mk a) (State.WarmedH.refl U) rfl h.2⟩
theorem zat_kept {G : zG} {q : Nat} {e : zE} {H H1 : Heap} (h : va_at G.1 vwCl (q, zEn G e) H) (hq : H1[q]? = H[q]?) : va_at G.1 vwCl (q, zEn G e) H1 := va_at.kept h hq
theorem zRep.kept {G : zG} {w : zH} {ad : Nat → Nat} {H H1 : Heap} (h : zRep G w ad H) (hq : ∀ q : Nat, q < H.size → H1[q]? = H[q]?) : zRep G w ad H1 :=
  ⟨fun i e hi => ⟨(h.1 i e hi).1, (h.1 i e hi).2.kept (hq _ (h.1 i e hi).2.lt)⟩, h.2⟩
theorem zRep.put {G : zG} {w w' : zH} {ad : Nat → Nat} {H H1 : Heap} {i : Nat} {e0 e : zE} (h : zRep G w ad H) (hw : w i = some e0) (he : va_at G.1 vwCl (ad i, zEn G e) H1) (oq : ∀ q : Nat, q ≠ ad i → H1[q]? = H[q]?)
    (hw' : ∀ j, w' j = if j = i then some e else w j) : zRep G w' ad H1 := by
  have hn : ∀ j, w' j ≠ none → w j ≠ none := by
    intro j hj
    rw [hw'] at hj
    by_cases hji : j = i
    · subst hji; rw [hw]; intro z; cases z
    · rwa [if_neg hji] at hj
  refine ⟨fun j f hj => ?_, fun a b ha hb => h.2 a b (hn a ha) (hn b hb)⟩
  rw [hw'] at hj
  by_cases hji : j = i
  · subst hji
    rw [if_pos rfl] at hj
    cases hj
    exact ⟨(h.1 _ _ hw).1, he⟩
  · rw [if_neg hji] at hj
    refine ⟨(h.1 _ _ hj).1, (h.1 _ _ hj).2.kept (oq _ fun z => hji (h.2 j i ?_ ?_ z))⟩
    · rw [hj]; intro z; cases z
    · rw [hw]; intro z; cases z
/-- a new cell -/
theorem zRep.new {G : zG} {w w' : zH} {ad : Nat → Nat} {H H1 : Heap} {i : Nat} {e : zE} (h : zRep G w ad H) (hi : w i = none) (hb : zA G H.size) (he : va_at G.1 vwCl (H.size, zEn G e) H1) (oq : ∀ q : Nat, q < H.size → H1[q]? = H[q]?)
    (hw' : ∀ j, w' j = if j = i then some e else w j) : zRep G w' (va_up ad i H.size) H1 := by
  have hlt : ∀ j, j ≠ i → w' j ≠ none → ad j < H.size ∧ w j ≠ none := by
    intro j hji hj
    rw [hw', if_neg hji] at hj
    cases hwj : w j with
    | none => exact absurd hwj hj
    | some f => exact ⟨(h.1 j f hwj).2.lt, fun z => by cases z⟩
  refine ⟨fun j f hj => ?_, fun a b ha hb2 hab => ?_⟩
  · by_cases hji : j = i
    · subst hji
      rw [hw', if_pos rfl] at hj
      cases hj
      simp only [va_up, if_true]
      exact ⟨hb, he⟩
    · rw [hw', if_neg hji] at hj
      simp only [va_up, if_neg hji]
      exact ⟨(h.1 _ _ hj).1, (h.1 _ _ hj).2.kept (oq _ (h.1 _ _ hj).2.lt)⟩
  · by_cases hai : a = i <;> by_cases hbi : b = i
    · rw [hai, hbi]
    · have := (hlt b hbi hb2).1
      simp only [va_up, hai, if_true, if_neg hbi] at hab
      omega
    · have := (hlt a hai ha).1
      simp only [va_up, hbi, if_true, if_neg hai] at hab
      omega
    · simp only [va_up, if_neg hai, if_neg hbi] at hab
      exact h.2 a b (hlt a hai ha).2 (hlt b hbi hb2).2 hab
/-- a part of the world is left out of sight -/
theorem zRep.less {G : zG} {w w' : zH} {ad : Nat → Nat} {H : Heap} (h : zRep G w ad H) (hw' : ∀ j e, w' j = some e → w j = some e) : zRep G w' ad H := by
  have hn : ∀ j, w' j ≠ none → w j ≠ none := by
    intro j hj
    cases hx : w' j with
    | none => exact absurd hx hj
    | some f => rw [hw' j f hx]; intro z; cases z
  exact ⟨fun i e hi => h.1 i e (hw' i e hi), fun a b ha hb => h.2 a b (hn a ha) (hn b hb)⟩
theorem zRep.same {G : zG} {w w' : zH} {ad ad' : Nat → Nat} {H : Heap} (h : zRep G w ad H) (hw' : ∀ j, w' j = w j) (ha : ∀ j, w j ≠ none → ad' j = ad j) : zRep G w' ad' H := by
  have e : w' = w := funext hw'
  subst e
  refine ⟨fun i e hi => ?_, fun a b h1 h2 hab => h.2 a b h1 h2 (by rw [← ha a h1, ← ha b h2]; exact hab)⟩
  have hn : w' i ≠ none := by rw [hi]; intro z; cases z
  rw [ha i hn]
  exact h.1 i e hi
abbrev zXT : Type := Heap → Nat → Nat → Nat → Array Slot → List Value → Prop
/-- X is the walk of a body: of a method of class own, whose code is cc, which owes PQ and PX -/
def zOK (G : zG) (l : Launch) (own : String) (cc : ByteArray) (nL : Nat) (ret : Option FieldType) (ws : List Cond) (R : Room) (mc ms : Nat) (et : List ExceptionTableEntry) (PQ : Option Value → zH → (Nat → Nat) → Prop) (PX : String → zH → (Nat → Nat) → Prop) (ini : Prop) (X : zXT) : Prop :=
  ∃ (p : Program) (e : Env) (s : State) (m : MethodId) (args : Array Value) (below : List Frame) (meth : Method) (c : Code),
    p.tables.exec = Jvm.exec ∧ c.code = cc ∧ meth.sig.returnType = ret ∧ (∀ w ∈ ws, w.before args s = true) ∧ s.vm.findClass own = some m.cls ∧ meth.locks = false ∧ c.maxLocals = nL ∧
    c.exceptionTable.toList = et ∧ (ini → meth.name = "<init>") ∧ G.2.2.1 ≤ s.heap.size ∧ va_K G.1 vwCl (zTys G) s ∧ zSt G s s.heap ∧ l.stackTraces = false ∧
    X = fun H k n pc ls st => ∀ locs, va_S (zA G) s.heap H locs → W p l e R s m args below meth c H locs k n (vx_MQ below (zQ G PQ) (zX G PX) args s mc ms (zA G)) (F0 m pc ls st)
def zV (G : zG) (X : zXT) (nL k n pc : Nat) (ls : List (Nat × Value)) (st : List Value) (w : zH) (ad : Nat → Nat) : Prop :=
  ∀ (H : Heap) (lsA : Array Slot), zRep G w ad H → lv_has lsA nL ls → X H k n pc lsA st
/-- a local by its number -/
def zL : List (Nat × Value) → Nat → Option Value
  | [], _ => none
  | q :: t, i => if q.1 = i then some q.2 else zL t i
theorem zL_mem : ∀ {ls : List (Nat × Value)} {i : Nat} {v : Value}, zL ls i = some v → (i, v) ∈ ls
  | [], _, _, h => by cases h
  | q :: t, i, v, h => by
    unfold zL at h
    by_cases hq : q.1 = i
    · rw [if_pos hq] at h
      cases h
      rw [← hq]
      exact List.mem_cons_self
    · rw [if_neg hq] at h
      exact List.mem_cons_of_mem _ (zL_mem h)
theorem zL_at {lsA : Array Slot} {nL i : Nat} {lsv : List (Nat × Value)} {v : Value} (h : lv_has lsA nL lsv) (hl : zL lsv i = some v) : lsA[i]? = some (.val v) := h.2.2 (i, v) (zL_mem hl)
def zS (ls : List (Nat × Value)) (i : Nat) (v : Value) : List (Nat × Value) := (i, v) :: ls.filter (fun q => !(q.1 == i) && !(q.1 + 1 == i && q.2.category == 2))
def zS2 (ls : List (Nat × Value)) (i : Nat) (v : Value) : List (Nat × Value) := (i, v) :: ls.filter (fun q => !(q.1 == i) && (!(q.1 == i + 1) && !(q.1 + 1 == i && q.2.category == 2)))
/-- all of these are among those -/
def zSubs (ls : List (Nat × Value)) : List (Nat × Value) → Prop
  | [] => True
  | q :: t => zL ls q.1 = some q.2 ∧ zSubs ls t
theorem zSubs_has {lsA : Array Slot} {nL : Nat} {ls : List (Nat × Value)} (h : lv_has lsA nL ls) : ∀ {l' : List (Nat × Value)}, zSubs ls l' → lv_has lsA nL l' := by
  intro l' hs
  refine ⟨h.1, h.2.1, ?_⟩
  induction l' with
  | nil => intro q hq; cases hq
  | cons x t ih =>
    intro q hq
    rcases List.mem_cons.mp hq with e | hq
    · subst e
      exact zL_at h hs.1
    · exact ih hs.2 q hq
section ZROWS
variable {G : zG} {l : Launch} {own : String} {cc : ByteArray} {nL : Nat} {ret : Option FieldType} {ws : List Cond} {R : Room} {mc ms : Nat} {et : List ExceptionTableEntry} {PQ : Option Value → zH → (Nat → Nat) → Prop} {PX : String → zH → (Nat → Nat) → Prop} {ini : Prop} {X : zXT} {kc ks pc : Nat} {lsv : List (Nat × Value)} {rest : List Value} {w : zH} {ad : Nat → Nat}
/-- fewer locals, another say of the same world -/
theorem zV.to {ls' : List (Nat × Value)} {st' : List Value} {w' : zH} (k : zV G X nL kc ks pc ls' st' w' ad) (hl : zSubs lsv ls') (hs : st' = rest) (hw : w' = w) : zV G X nL kc ks pc lsv rest w ad := by
  subst hs hw
  exact fun H lsA hR hL => k H lsA hR (zSubs_has hL hl)
theorem zV.loc {ls' : List (Nat × Value)} (k : zV G X nL kc ks pc ls' rest w ad) (hl : zSubs lsv ls') : zV G X nL kc ks pc lsv rest w ad := fun H lsA hR hL => k H lsA hR (zSubs_has hL hl)
theorem zV.world {w' : zH} {ad' : Nat → Nat} (k : zV G X nL kc ks pc lsv rest w' ad') (hw : ∀ H, zRep G w ad H → zRep G w' ad' H) : zV G X nL kc ks pc lsv rest w ad := fun H lsA hR hL => k H lsA (hw H hR) hL
theorem z_iconst (O : zOK G l own cc nL ret ws R mc ms et PQ PX ini X) {n : Int} {v : Int32} (hdg : decode cc pc = .ok (.iconst n, 1)) (hv : Int32.ofInt n = v) (k : zV G X nL kc ks (pc + 1) lsv (.int v :: rest) w ad) : zV G X nL kc ks pc lsv (rest) w ad := by
  obtain ⟨p, e, s, m, args, below, meth, c, hx, hb, -, -, -, -, -, -, -, -, -, -, -, rfl⟩ := O
  intro H lsA hR hL locs hS
  exact lv_iconst hx hb (hdg := hdg) (hv := hv) (k := (k H lsA hR hL locs hS))
theorem z_bipush (O : zOK G l own cc nL ret ws R mc ms et PQ PX ini X) {n : Int} {v : Int32} (hdg : decode cc pc = .ok (.bipush n, 2)) (hv : (Int8.ofInt n).toInt32 = v) (k : zV G X nL kc ks (pc + 2) lsv (.int v :: rest) w ad) : zV G X nL kc ks pc lsv (rest) w ad := by
  obtain ⟨p, e, s, m, args, below, meth, c, hx, hb, -, -, -, -, -, -, -, -, -, -, -, rfl⟩ := O
  intro H lsA hR hL locs hS
  exact lv_bipush hx hb (hdg := hdg) (hv := hv) (k := (k H lsA hR hL locs hS))
theorem z_sipush (O : zOK G l own cc nL ret ws R mc ms et PQ PX ini X) {n : Int} {v : Int32} (hdg : decode cc pc = .ok (.sipush n, 3)) (hv : (Int16.ofInt n).toInt32 = v) (k : zV G X nL kc ks (pc + 3) lsv (.int v :: rest) w ad) : zV G X nL kc ks pc lsv (rest) w ad := by
  obtain ⟨p, e, s, m, args, below, meth, c, hx, hb, -, -, -, -, -, -, -, -, -, -, -, rfl⟩ := O
  intro H lsA hR hL locs hS
  exact lv_sipush hx hb (hdg := hdg) (hv := hv) (k := (k H lsA hR hL locs hS))
theorem z_lconst (O : zOK G l own cc nL ret ws R mc ms et PQ PX ini X) {n : Fin 2} {v : Int64} (hdg : decode cc pc = .ok (.lconst n, 1)) (hv : Int64.ofNat (n : Nat) = v) (k : zV G X nL kc ks (pc + 1) lsv (.long v :: rest) w ad) : zV G X nL kc ks pc lsv (rest) w ad := by
  obtain ⟨p, e, s, m, args, below, meth, c, hx, hb, -, -, -, -, -, -, -, -, -, -, -, rfl⟩ := O
  intro H lsA hR hL locs hS
  exact lv_lconst hx hb (hdg := hdg) (hv := hv) (k := (k H lsA hR hL locs hS))
theorem z_iadd (O : zOK G l own cc nL ret ws R mc ms et PQ PX ini X) {x y : Int32} (hdg : decode cc pc = .ok (.iadd, 1))  (k : zV G X nL kc ks (pc + 1) lsv (.int (x + y) :: rest) w ad) : zV G X nL kc ks pc lsv (.int y :: .int x :: rest) w ad := by
  obtain ⟨p, e, s, m, args, below, meth, c, hx, hb, -, -, -, -, -, -, -, -, -, -, -, rfl⟩ := O
  intro H lsA hR hL locs hS
  exact lv_iadd hx hb (hdg := hdg) (k := (k H lsA hR hL locs hS))
theorem z_isub (O : zOK G l own cc nL ret ws R mc ms et PQ PX ini X) {x y : Int32} (hdg : decode cc pc = .ok (.isub, 1))  (k : zV G X nL kc ks (pc + 1) lsv (.int (x - y) :: rest) w ad) : zV G X nL kc ks pc lsv (.int y :: .int x :: rest) w ad := by
  obtain ⟨p, e, s, m, args, below, meth, c, hx, hb, -, -, -, -, -, -, -, -, -, -, -, rfl⟩ := O
  intro H lsA hR hL locs hS
  exact lv_isub hx hb (hdg := hdg) (k := (k H lsA hR hL locs hS))
theorem z_imul (O : zOK G l own cc nL ret ws R mc ms et PQ PX ini X) {x y : Int32} (hdg : decode cc pc = .ok (.imul, 1))  (k : zV G X nL kc ks (pc + 1) lsv (.int (x * y) :: rest) w ad) : zV G X nL kc ks pc lsv (.int y :: .int x :: rest) w ad := by
  obtain ⟨p, e, s, m, args, below, meth, c, hx, hb, -, -, -, -, -, -, -, -, -, -, -, rfl⟩ := O
  intro H lsA hR hL locs hS
  exact lv_imul hx hb (hdg := hdg) (k := (k H lsA hR hL locs hS))
theorem z_iand (O : zOK G l own cc nL ret ws R mc ms et PQ PX ini X) {x y : Int32} (hdg : decode cc pc = .ok (.iand, 1))  (k : zV G X nL kc ks (pc + 1) lsv (.int (x &&& y) :: rest) w ad) : zV G X nL kc ks pc lsv (.int y :: .int x :: rest) w ad := by
  obtain ⟨p, e, s, m, args, below, meth, c, hx, hb, -, -, -, -, -, -, -, -, -, -, -, rfl⟩ := O
  intro H lsA hR hL locs hS
  exact lv_iand hx hb (hdg := hdg) (k := (k H lsA hR hL locs hS))
theorem z_ior (O : zOK G l own cc nL ret ws R mc ms et PQ PX ini X) {x y : Int32} (hdg : decode cc pc = .ok (.ior, 1))  (k : zV G X nL kc ks (pc + 1) lsv (.int (x ||| y) :: rest) w ad) : zV G X nL kc ks pc lsv (.int y :: .int x :: rest) w ad := by
  obtain ⟨p, e, s, m, args, below, meth, c, hx, hb, -, -, -, -, -, -, -, -, -, -, -, rfl⟩ := O
  intro H lsA hR hL locs hS
  exact lv_ior hx hb (hdg := hdg) (k := (k H lsA hR hL locs hS))
theorem z_ixor (O : zOK G l own cc nL ret ws R mc ms et PQ PX ini X) {x y : Int32} (hdg : decode cc pc = .ok (.ixor, 1))  (k : zV G X nL kc ks (pc + 1) lsv (.int (x ^^^ y) :: rest) w ad) : zV G X nL kc ks pc lsv (.int y :: .int x :: rest) w ad := by
  obtain ⟨p, e, s, m, args, below, meth, c, hx, hb, -, -, -, -, -, -, -, -, -, -, -, rfl⟩ := O
  intro H lsA hR hL locs hS
  exact lv_ixor hx hb (hdg := hdg) (k := (k H lsA hR hL locs hS))
theorem z_idiv (O : zOK G l own cc nL ret ws R mc ms et PQ PX ini X) {x y : Int32} (hdg : decode cc pc = .ok (.idiv, 1)) (hne : ¬ y = 0) (k : zV G X nL kc ks (pc + 1) lsv (.int (x / y) :: rest) w ad) : zV G X nL kc ks pc lsv (.int y :: .int x :: rest) w ad := by
  obtain ⟨p, e, s, m, args, below, meth, c, hx, hb, -, -, -, -, -, -, -, -, -, -, -, rfl⟩ := O
  intro H lsA hR hL locs hS
  exact lv_idiv hx hb (hdg := hdg) (hne := hne) (k := (k H lsA hR hL locs hS))
theorem z_irem (O : zOK G l own cc nL ret ws R mc ms et PQ PX ini X) {x y : Int32} (hdg : decode cc pc = .ok (.irem, 1)) (hne : ¬ y = 0) (k : zV G X nL kc ks (pc + 1) lsv (.int (x - x / y * y) :: rest) w ad) : zV G X nL kc ks pc lsv (.int y :: .int x :: rest) w ad := by
  obtain ⟨p, e, s, m, args, below, meth, c, hx, hb, -, -, -, -, -, -, -, -, -, -, -, rfl⟩ := O
  intro H lsA hR hL locs hS
  exact lv_irem hx hb (hdg := hdg) (hne := hne) (k := (k H lsA hR hL locs hS))
theorem z_ineg (O : zOK G l own cc nL ret ws R mc ms et PQ PX ini X) {x : Int32} (hdg : decode cc pc = .ok (.ineg, 1))  (k : zV G X nL kc ks (pc + 1) lsv (.int (-x) :: rest) w ad) : zV G X nL kc ks pc lsv (.int x :: rest) w ad := by
  obtain ⟨p, e, s, m, args, below, meth, c, hx, hb, -, -, -, -, -, -, -, -, -, -, -, rfl⟩ := O
  intro H lsA hR hL locs hS
  exact lv_ineg hx hb (hdg := hdg) (k := (k H lsA hR hL locs hS))
theorem z_ladd (O : zOK G l own cc nL ret ws R mc ms et PQ PX ini X) {x y : Int64} (hdg : decode cc pc = .ok (.ladd, 1))  (k : zV G X nL kc ks (pc + 1) lsv (.long (x + y) :: rest) w ad) : zV G X nL kc ks pc lsv (.long y :: .long x :: rest) w ad := by
  obtain ⟨p, e, s, m, args, below, meth, c, hx, hb, -, -, -, -, -, -, -, -, -, -, -, rfl⟩ := O
  intro H lsA hR hL locs hS
  exact lv_ladd hx hb (hdg := hdg) (k := (k H lsA hR hL locs hS))
theorem z_lsub (O : zOK G l own cc nL ret ws R mc ms et PQ PX ini X) {x y : Int64} (hdg : decode cc pc = .ok (.lsub, 1))  (k : zV G X nL kc ks (pc + 1) lsv (.long (x - y) :: rest) w ad) : zV G X nL kc ks pc lsv (.long y :: .long x :: rest) w ad := by
  obtain ⟨p, e, s, m, args, below, meth, c, hx, hb, -, -, -, -, -, -, -, -, -, -, -, rfl⟩ := O
  intro H lsA hR hL locs hS
  exact lv_lsub hx hb (hdg := hdg) (k := (k H lsA hR hL locs hS))
theorem z_lmul (O : zOK G l own cc nL ret ws R mc ms et PQ PX ini X) {x y : Int64} (hdg : decode cc pc = .ok (.lmul, 1))  (k : zV G X nL kc ks (pc + 1) lsv (.long (x * y) :: rest) w ad) : zV G X nL kc ks pc lsv (.long y :: .long x :: rest) w ad := by
  obtain ⟨p, e, s, m, args, below, meth, c, hx, hb, -, -, -, -, -, -, -, -, -, -, -, rfl⟩ := O
  intro H lsA hR hL locs hS
  exact lv_lmul hx hb (hdg := hdg) (k := (k H lsA hR hL locs hS))
theorem z_ldiv (O : zOK G l own cc nL ret ws R mc ms et PQ PX ini X) {x y : Int64} (hdg : decode cc pc = .ok (.ldiv, 1)) (hne : ¬ y = 0) (k : zV G X nL kc ks (pc + 1) lsv (.long (x / y) :: rest) w ad) : zV G X nL kc ks pc lsv (.long y :: .long x :: rest) w ad := by
  obtain ⟨p, e, s, m, args, below, meth, c, hx, hb, -, -, -, -, -, -, -, -, -, -, -, rfl⟩ := O
  intro H lsA hR hL locs hS
  exact lv_ldiv hx hb (hdg := hdg) (hne := hne) (k := (k H lsA hR hL locs hS))
theorem z_ishl (O : zOK G l own cc nL ret ws R mc ms et PQ PX ini X) {x y : Int32} (hdg : decode cc pc = .ok (.ishl, 1))  (k : zV G X nL kc ks (pc + 1) lsv (.int (x <<< (y &&& 31)) :: rest) w ad) : zV G X nL kc ks pc lsv (.int y :: .int x :: rest) w ad := by
  obtain ⟨p, e, s, m, args, below, meth, c, hx, hb, -, -, -, -, -, -, -, -, -, -, -, rfl⟩ := O
  intro H lsA hR hL locs hS
  exact lv_ishl hx hb (hdg := hdg) (k := (k H lsA hR hL locs hS))
theorem z_ishr (O : zOK G l own cc nL ret ws R mc ms et PQ PX ini X) {x y : Int32} (hdg : decode cc pc = .ok (.ishr, 1))  (k : zV G X nL kc ks (pc + 1) lsv (.int (x >>> (y &&& 31)) :: rest) w ad) : zV G X nL kc ks pc lsv (.int y :: .int x :: rest) w ad := by
  obtain ⟨p, e, s, m, args, below, meth, c, hx, hb, -, -, -, -, -, -, -, -, -, -, -, rfl⟩ := O
  intro H lsA hR hL locs hS
  exact lv_ishr hx hb (hdg := hdg) (k := (k H lsA hR hL locs hS))
theorem z_iushr (O : zOK G l own cc nL ret ws R mc ms et PQ PX ini X) {x y v : Int32} (hdg : decode cc pc = .ok (.iushr, 1)) (hv : (x.toUInt32 >>> (y.toUInt32 &&& Int32.toUInt32 31)).toInt32 = v) (k : zV G X nL kc ks (pc + 1) lsv (.int v :: rest) w ad) : zV G X nL kc ks pc lsv (.int y :: .int x :: rest) w ad := by
  obtain ⟨p, e, s, m, args, below, meth, c, hx, hb, -, -, -, -, -, -, -, -, -, -, -, rfl⟩ := O
  intro H lsA hR hL locs hS
  exact lv_iushr hx hb (hdg := hdg) (hv := hv) (k := (k H lsA hR hL locs hS))
theorem z_i2l (O : zOK G l own cc nL ret ws R mc ms et PQ PX ini X) {x : Int32} {v : Int64} (hdg : decode cc pc = .ok (.i2l, 1)) (hv : x.toInt64 = v) (k : zV G X nL kc ks (pc + 1) lsv (.long v :: rest) w ad) : zV G X nL kc ks pc lsv (.int x :: rest) w ad := by
  obtain ⟨p, e, s, m, args, below, meth, c, hx, hb, -, -, -, -, -, -, -, -, -, -, -, rfl⟩ := O
  intro H lsA hR hL locs hS
  exact lv_i2l hx hb (hdg := hdg) (hv := hv) (k := (k H lsA hR hL locs hS))
theorem z_l2i (O : zOK G l own cc nL ret ws R mc ms et PQ PX ini X) {x : Int64} {v : Int32} (hdg : decode cc pc = .ok (.l2i, 1)) (hv : x.toInt32 = v) (k : zV G X nL kc ks (pc + 1) lsv (.int v :: rest) w ad) : zV G X nL kc ks pc lsv (.long x :: rest) w ad := by
  obtain ⟨p, e, s, m, args, below, meth, c, hx, hb, -, -, -, -, -, -, -, -, -, -, -, rfl⟩ := O
  intro H lsA hR hL locs hS
  exact lv_l2i hx hb (hdg := hdg) (hv := hv) (k := (k H lsA hR hL locs hS))
theorem z_i2c (O : zOK G l own cc nL ret ws R mc ms et PQ PX ini X) {x : Int32} {v : Int32} (hdg : decode cc pc = .ok (.i2c, 1)) (hv : (x.toUInt32 % 65536).toInt32 = v) (k : zV G X nL kc ks (pc + 1) lsv (.int v :: rest) w ad) : zV G X nL kc ks pc lsv (.int x :: rest) w ad := by
  obtain ⟨p, e, s, m, args, below, meth, c, hx, hb, -, -, -, -, -, -, -, -, -, -, -, rfl⟩ := O
  intro H lsA hR hL locs hS
  exact lv_i2c hx hb (hdg := hdg) (hv := hv) (k := (k H lsA hR hL locs hS))
theorem z_i2b (O : zOK G l own cc nL ret ws R mc ms et PQ PX ini X) {x : Int32} {v : Int32} (hdg : decode cc pc = .ok (.i2b, 1)) (hv : x.toInt8.toInt32 = v) (k : zV G X nL kc ks (pc + 1) lsv (.int v :: rest) w ad) : zV G X nL kc ks pc lsv (.int x :: rest) w ad := by
  obtain ⟨p, e, s, m, args, below, meth, c, hx, hb, -, -, -, -, -, -, -, -, -, -, -, rfl⟩ := O
  intro H lsA hR hL locs hS
  exact lv_i2b hx hb (hdg := hdg) (hv := hv) (k := (k H lsA hR hL locs hS))
theorem z_dup (O : zOK G l own cc nL ret ws R mc ms et PQ PX ini X) {va : Value} (hdg : decode cc pc = .ok (.dup, 1)) (hva : va.category = 1) (k : zV G X nL kc ks (pc + 1) lsv (va :: va :: rest) w ad) : zV G X nL kc ks pc lsv (va :: rest) w ad := by
  obtain ⟨p, e, s, m, args, below, meth, c, hx, hb, -, -, -, -, -, -, -, -, -, -, -, rfl⟩ := O
  intro H lsA hR hL locs hS
  exact lv_dup hx hb (hdg := hdg) (hva := hva) (k := (k H lsA hR hL locs hS))
theorem z_pop (O : zOK G l own cc nL ret ws R mc ms et PQ PX ini X) {va : Value} (hdg : decode cc pc = .ok (.pop, 1)) (hva : va.category = 1) (k : zV G X nL kc ks (pc + 1) lsv (rest) w ad) : zV G X nL kc ks pc lsv (va :: rest) w ad := by
  obtain ⟨p, e, s, m, args, below, meth, c, hx, hb, -, -, -, -, -, -, -, -, -, -, -, rfl⟩ := O
  intro H lsA hR hL locs hS
  exact lv_pop hx hb (hdg := hdg) (hva := hva) (k := (k H lsA hR hL locs hS))
theorem z_dup_x1 (O : zOK G l own cc nL ret ws R mc ms et PQ PX ini X) {va vb : Value} (hdg : decode cc pc = .ok (.dup_x1, 1)) (hva : va.category = 1) (hvb : vb.category = 1) (k : zV G X nL kc ks (pc + 1) lsv (va :: vb :: va :: rest) w ad) : zV G X nL kc ks pc lsv (va :: vb :: rest) w ad := by
  obtain ⟨p, e, s, m, args, below, meth, c, hx, hb, -, -, -, -, -, -, -, -, -, -, -, rfl⟩ := O
  intro H lsA hR hL locs hS
  exact lv_dup_x1 hx hb (hdg := hdg) (hva := hva) (hvb := hvb) (k := (k H lsA hR hL locs hS))
theorem z_dup2_11 (O : zOK G l own cc nL ret ws R mc ms et PQ PX ini X) {va vb : Value} (hdg : decode cc pc = .ok (.dup2, 1)) (hva : va.category = 1) (hvb : vb.category = 1) (k : zV G X nL kc ks (pc + 1) lsv (va :: vb :: va :: vb :: rest) w ad) : zV G X nL kc ks pc lsv (va :: vb :: rest) w ad := by
  obtain ⟨p, e, s, m, args, below, meth, c, hx, hb, -, -, -, -, -, -, -, -, -, -, -, rfl⟩ := O
  intro H lsA hR hL locs hS
  exact lv_dup2_11 hx hb (hdg := hdg) (hva := hva) (hvb := hvb) (k := (k H lsA hR hL locs hS))
theorem z_dup2_2 (O : zOK G l own cc nL ret ws R mc ms et PQ PX ini X) {va : Value} (hdg : decode cc pc = .ok (.dup2, 1)) (hva : va.category = 2) (k : zV G X nL kc ks (pc + 1) lsv (va :: va :: rest) w ad) : zV G X nL kc ks pc lsv (va :: rest) w ad := by
  obtain ⟨p, e, s, m, args, below, meth, c, hx, hb, -, -, -, -, -, -, -, -, -, -, -, rfl⟩ := O
  intro H lsA hR hL locs hS
  exact lv_dup2_2 hx hb (hdg := hdg) (hva := hva) (k := (k H lsA hR hL locs hS))
theorem z_pop2_2 (O : zOK G l own cc nL ret ws R mc ms et PQ PX ini X) {va : Value} (hdg : decode cc pc = .ok (.pop2, 1)) (hva : va.category = 2) (k : zV G X nL kc ks (pc + 1) lsv (rest) w ad) : zV G X nL kc ks pc lsv (va :: rest) w ad := by
  obtain ⟨p, e, s, m, args, below, meth, c, hx, hb, -, -, -, -, -, -, -, -, -, -, -, rfl⟩ := O
  intro H lsA hR hL locs hS
  exact lv_pop2_2 hx hb (hdg := hdg) (hva := hva) (k := (k H lsA hR hL locs hS))
theorem z_dup_x2 (O : zOK G l own cc nL ret ws R mc ms et PQ PX ini X) {va vb vd : Value} (hdg : decode cc pc = .ok (.dup_x2, 1)) (hva : va.category = 1) (hvb : vb.category = 1) (hvd : vd.category = 1) (k : zV G X nL kc ks (pc + 1) lsv (va :: vb :: vd :: va :: rest) w ad) : zV G X nL kc ks pc lsv (va :: vb :: vd :: rest) w ad := by
  obtain ⟨p, e, s, m, args, below, meth, c, hx, hb, -, -, -, -, -, -, -, -, -, -, -, rfl⟩ := O
  intro H lsA hR hL locs hS
  exact lv_dup_x2 hx hb (hdg := hdg) (hva := hva) (hvb := hvb) (hvd := hvd) (k := (k H lsA hR hL locs hS))
theorem z_if_eq (O : zOK G l own cc nL ret ws R mc ms et PQ PX ini X) {x : Int32} {off : Int} {tgt : Nat} (hdg : decode cc pc = .ok (.ifCond .eq off, 3)) (ht : (pc : Int) + off = (tgt : Int)) (kt : x = 0 → zV G X nL kc ks tgt lsv rest w ad) (kf : ¬ x = 0 → zV G X nL kc ks (pc + 3) lsv rest w ad) : zV G X nL kc ks pc lsv (.int x :: rest) w ad := by
  obtain ⟨p, e, s, m, args, below, meth, c, hx, hb, -, -, -, -, -, -, -, -, -, -, -, rfl⟩ := O
  intro H lsA hR hL locs hS
  exact lv_if_eq hx hb (hdg := hdg) (ht := ht) (kt := fun h => kt h H lsA hR hL locs hS) (kf := fun h => kf h H lsA hR hL locs hS)
theorem z_icmp_eq (O : zOK G l own cc nL ret ws R mc ms et PQ PX ini X) {x y : Int32} {off : Int} {tgt : Nat} (hdg : decode cc pc = .ok (.if_icmp .eq off, 3)) (ht : (pc : Int) + off = (tgt : Int)) (kt : x = y → zV G X nL kc ks tgt lsv rest w ad) (kf : ¬ x = y → zV G X nL kc ks (pc + 3) lsv rest w ad) : zV G X nL kc ks pc lsv (.int y :: .int x :: rest) w ad := by
  obtain ⟨p, e, s, m, args, below, meth, c, hx, hb, -, -, -, -, -, -, -, -, -, -, -, rfl⟩ := O
  intro H lsA hR hL locs hS
  exact lv_icmp_eq hx hb (hdg := hdg) (ht := ht) (kt := fun h => kt h H lsA hR hL locs hS) (kf := fun h => kf h H lsA hR hL locs hS)
theorem z_if_ne (O : zOK G l own cc nL ret ws R mc ms et PQ PX ini X) {x : Int32} {off : Int} {tgt : Nat} (hdg : decode cc pc = .ok (.ifCond .ne off, 3)) (ht : (pc : Int) + off = (tgt : Int)) (kt : ¬ x = 0 → zV G X nL kc ks tgt lsv rest w ad) (kf : x = 0 → zV G X nL kc ks (pc + 3) lsv rest w ad) : zV G X nL kc ks pc lsv (.int x :: rest) w ad := by
  obtain ⟨p, e, s, m, args, below, meth, c, hx, hb, -, -, -, -, -, -, -, -, -, -, -, rfl⟩ := O
  intro H lsA hR hL locs hS
  exact lv_if_ne hx hb (hdg := hdg) (ht := ht) (kt := fun h => kt h H lsA hR hL locs hS) (kf := fun h => kf h H lsA hR hL locs hS)
theorem z_icmp_ne (O : zOK G l own cc nL ret ws R mc ms et PQ PX ini X) {x y : Int32} {off : Int} {tgt : Nat} (hdg : decode cc pc = .ok (.if_icmp .ne off, 3)) (ht : (pc : Int) + off = (tgt : Int)) (kt : ¬ x = y → zV G X nL kc ks tgt lsv rest w ad) (kf : x = y → zV G X nL kc ks (pc + 3) lsv rest w ad) : zV G X nL kc ks pc lsv (.int y :: .int x :: rest) w ad := by
  obtain ⟨p, e, s, m, args, below, meth, c, hx, hb, -, -, -, -, -, -, -, -, -, -, -, rfl⟩ := O
  intro H lsA hR hL locs hS
  exact lv_icmp_ne hx hb (hdg := hdg) (ht := ht) (kt := fun h => kt h H lsA hR hL locs hS) (kf := fun h => kf h H lsA hR hL locs hS)
theorem z_if_lt (O : zOK G l own cc nL ret ws R mc ms et PQ PX ini X) {x : Int32} {off : Int} {tgt : Nat} (hdg : decode cc pc = .ok (.ifCond .lt off, 3)) (ht : (pc : Int) + off = (tgt : Int)) (kt : x < 0 → zV G X nL kc ks tgt lsv rest w ad) (kf : ¬ x < 0 → zV G X nL kc ks (pc + 3) lsv rest w ad) : zV G X nL kc ks pc lsv (.int x :: rest) w ad := by
  obtain ⟨p, e, s, m, args, below, meth, c, hx, hb, -, -, -, -, -, -, -, -, -, -, -, rfl⟩ := O
  intro H lsA hR hL locs hS
  exact lv_if_lt hx hb (hdg := hdg) (ht := ht) (kt := fun h => kt h H lsA hR hL locs hS) (kf := fun h => kf h H lsA hR hL locs hS)
theorem z_icmp_lt (O : zOK G l own cc nL ret ws R mc ms et PQ PX ini X) {x y : Int32} {off : Int} {tgt : Nat} (hdg : decode cc pc = .ok (.if_icmp .lt off, 3)) (ht : (pc : Int) + off = (tgt : Int)) (kt : x < y → zV G X nL kc ks tgt lsv rest w ad) (kf : ¬ x < y → zV G X nL kc ks (pc + 3) lsv rest w ad) : zV G X nL kc ks pc lsv (.int y :: .int x :: rest) w ad := by
  obtain ⟨p, e, s, m, args, below, meth, c, hx, hb, -, -, -, -, -, -, -, -, -, -, -, rfl⟩ := O
  intro H lsA hR hL locs hS
  exact lv_icmp_lt hx hb (hdg := hdg) (ht := ht) (kt := fun h => kt h H lsA hR hL locs hS) (kf := fun h => kf h H lsA hR hL locs hS)
theorem z_if_ge (O : zOK G l own cc nL ret ws R mc ms et PQ PX ini X) {x : Int32} {off : Int} {tgt : Nat} (hdg : decode cc pc = .ok (.ifCond .ge off, 3)) (ht : (pc : Int) + off = (tgt : Int)) (kt : 0 ≤ x → zV G X nL kc ks tgt lsv rest w ad) (kf : ¬ 0 ≤ x → zV G X nL kc ks (pc + 3) lsv rest w ad) : zV G X nL kc ks pc lsv (.int x :: rest) w ad := by
  obtain ⟨p, e, s, m, args, below, meth, c, hx, hb, -, -, -, -, -, -, -, -, -, -, -, rfl⟩ := O
  intro H lsA hR hL locs hS
  exact lv_if_ge hx hb (hdg := hdg) (ht := ht) (kt := fun h => kt h H lsA hR hL locs hS) (kf := fun h => kf h H lsA hR hL locs hS)
theorem z_icmp_ge (O : zOK G l own cc nL ret ws R mc ms et PQ PX ini X) {x y : Int32} {off : Int} {tgt : Nat} (hdg : decode cc pc = .ok (.if_icmp .ge off, 3)) (ht : (pc : Int) + off = (tgt : Int)) (kt : y ≤ x → zV G X nL kc ks tgt lsv rest w ad) (kf : ¬ y ≤ x → zV G X nL kc ks (pc + 3) lsv rest w ad) : zV G X nL kc ks pc lsv (.int y :: .int x :: rest) w ad := by
  obtain ⟨p, e, s, m, args, below, meth, c, hx, hb, -, -, -, -, -, -, -, -, -, -, -, rfl⟩ := O
  intro H lsA hR hL locs hS
  exact lv_icmp_ge hx hb (hdg := hdg) (ht := ht) (kt := fun h => kt h H lsA hR hL locs hS) (kf := fun h => kf h H lsA hR hL locs hS)
theorem z_if_gt (O : zOK G l own cc nL ret ws R mc ms et PQ PX ini X) {x : Int32} {off : Int} {tgt : Nat} (hdg : decode cc pc = .ok (.ifCond .gt off, 3)) (ht : (pc : Int) + off = (tgt : Int)) (kt : 0 < x → zV G X nL kc ks tgt lsv rest w ad) (kf : ¬ 0 < x → zV G X nL kc ks (pc + 3) lsv rest w ad) : zV G X nL kc ks pc lsv (.int x :: rest) w ad := by
  obtain ⟨p, e, s, m, args, below, meth, c, hx, hb, -, -, -, -, -, -, -, -, -, -, -, rfl⟩ := O
  intro H lsA hR hL locs hS
  exact lv_if_gt hx hb (hdg := hdg) (ht := ht) (kt := fun h => kt h H lsA hR hL locs hS) (kf := fun h => kf h H lsA hR hL locs hS)
theorem z_icmp_gt (O : zOK G l own cc nL ret ws R mc ms et PQ PX ini X) {x y : Int32} {off : Int} {tgt : Nat} (hdg : decode cc pc = .ok (.if_icmp .gt off, 3)) (ht : (pc : Int) + off = (tgt : Int)) (kt : y < x → zV G X nL kc ks tgt lsv rest w ad) (kf : ¬ y < x → zV G X nL kc ks (pc + 3) lsv rest w ad) : zV G X nL kc ks pc lsv (.int y :: .int x :: rest) w ad := by
  obtain ⟨p, e, s, m, args, below, meth, c, hx, hb, -, -, -, -, -, -, -, -, -, -, -, rfl⟩ := O
  intro H lsA hR hL locs hS
  exact lv_icmp_gt hx hb (hdg := hdg) (ht := ht) (kt := fun h => kt h H lsA hR hL locs hS) (kf := fun h => kf h H lsA hR hL locs hS)
theorem z_if_le (O : zOK G l own cc nL ret ws R mc ms et PQ PX ini X) {x : Int32} {off : Int} {tgt : Nat} (hdg : decode cc pc = .ok (.ifCond .le off, 3)) (ht : (pc : Int) + off = (tgt : Int)) (kt : x ≤ 0 → zV G X nL kc ks tgt lsv rest w ad) (kf : ¬ x ≤ 0 → zV G X nL kc ks (pc + 3) lsv rest w ad) : zV G X nL kc ks pc lsv (.int x :: rest) w ad := by
  obtain ⟨p, e, s, m, args, below, meth, c, hx, hb, -, -, -, -, -, -, -, -, -, -, -, rfl⟩ := O
  intro H lsA hR hL locs hS
  exact lv_if_le hx hb (hdg := hdg) (ht := ht) (kt := fun h => kt h H lsA hR hL locs hS) (kf := fun h => kf h H lsA hR hL locs hS)
theorem z_icmp_le (O : zOK G l own cc nL ret ws R mc ms et PQ PX ini X) {x y : Int32} {off : Int} {tgt : Nat} (hdg : decode cc pc = .ok (.if_icmp .le off, 3)) (ht : (pc : Int) + off = (tgt : Int)) (kt : x ≤ y → zV G X nL kc ks tgt lsv rest w ad) (kf : ¬ x ≤ y → zV G X nL kc ks (pc + 3) lsv rest w ad) : zV G X nL kc ks pc lsv (.int y :: .int x :: rest) w ad := by
  obtain ⟨p, e, s, m, args, below, meth, c, hx, hb, -, -, -, -, -, -, -, -, -, -, -, rfl⟩ := O
  intro H lsA hR hL locs hS
  exact lv_icmp_le hx hb (hdg := hdg) (ht := ht) (kt := fun h => kt h H lsA hR hL locs hS) (kf := fun h => kf h H lsA hR hL locs hS)
theorem z_goto (O : zOK G l own cc nL ret ws R mc ms et PQ PX ini X) {off : Int} {tgt : Nat} (hdg : decode cc pc = .ok (.goto off, 3)) (ht : (pc : Int) + off = (tgt : Int)) (k : zV G X nL kc ks tgt lsv rest w ad) : zV G X nL kc ks pc lsv rest w ad := by
  obtain ⟨p, e, s, m, args, below, meth, c, hx, hb, -, -, -, -, -, -, -, -, -, -, -, rfl⟩ := O
  intro H lsA hR hL locs hS
  exact lv_goto hx hb (hdg := hdg) (ht := ht) (k := (k H lsA hR hL locs hS))
theorem z_fconst0 (O : zOK G l own cc nL ret ws R mc ms et PQ PX ini X) (hdg : decode cc pc = .ok (.fconst 0, 1))  (k : zV G X nL kc ks (pc + 1) lsv (.float FP.fconst0 :: rest) w ad) : zV G X nL kc ks pc lsv (rest) w ad := by
  obtain ⟨p, e, s, m, args, below, meth, c, hx, hb, -, -, -, -, -, -, -, -, -, -, -, rfl⟩ := O
  intro H lsA hR hL locs hS
  exact lv_fconst0 hx hb (hdg := hdg) (k := (k H lsA hR hL locs hS))
theorem z_dconst0 (O : zOK G l own cc nL ret ws R mc ms et PQ PX ini X) (hdg : decode cc pc = .ok (.dconst 0, 1))  (k : zV G X nL kc ks (pc + 1) lsv (.double FP.dconst0 :: rest) w ad) : zV G X nL kc ks pc lsv (rest) w ad := by
  obtain ⟨p, e, s, m, args, below, meth, c, hx, hb, -, -, -, -, -, -, -, -, -, -, -, rfl⟩ := O
  intro H lsA hR hL locs hS
  exact lv_dconst0 hx hb (hdg := hdg) (k := (k H lsA hR hL locs hS))
theorem z_fdiv (O : zOK G l own cc nL ret ws R mc ms et PQ PX ini X) {x y : UInt32} (hdg : decode cc pc = .ok (.fdiv, 1)) (hne : vf_n32 (FP.fdiv x y)) (k : zV G X nL kc ks (pc + 1) lsv (.float (FP.fdiv x y) :: rest) w ad) : zV G X nL kc ks pc lsv (.float y :: .float x :: rest) w ad := by
  obtain ⟨p, e, s, m, args, below, meth, c, hx, hb, -, -, -, -, -, -, -, -, -, -, -, rfl⟩ := O
  intro H lsA hR hL locs hS
  exact lv_fdiv hx hb (hdg := hdg) (hne := hne) (k := (k H lsA hR hL locs hS))
theorem z_ddiv (O : zOK G l own cc nL ret ws R mc ms et PQ PX ini X) {x y : UInt64} (hdg : decode cc pc = .ok (.ddiv, 1)) (hne : vf_n64 (FP.ddiv x y)) (k : zV G X nL kc ks (pc + 1) lsv (.double (FP.ddiv x y) :: rest) w ad) : zV G X nL kc ks pc lsv (.double y :: .double x :: rest) w ad := by
  obtain ⟨p, e, s, m, args, below, meth, c, hx, hb, -, -, -, -, -, -, -, -, -, -, -, rfl⟩ := O
  intro H lsA hR hL locs hS
  exact lv_ddiv hx hb (hdg := hdg) (hne := hne) (k := (k H lsA hR hL locs hS))
theorem z_fcmp (O : zOK G l own cc nL ret ws R mc ms et PQ PX ini X) {x y : UInt32} {op : CmpOp} (hdg : decode cc pc = .ok (.fcmp op, 1))  (k : zV G X nL kc ks (pc + 1) lsv (.int (Op.cmpValue (FP.fcmp x y) op) :: rest) w ad) : zV G X nL kc ks pc lsv (.float y :: .float x :: rest) w ad := by
  obtain ⟨p, e, s, m, args, below, meth, c, hx, hb, -, -, -, -, -, -, -, -, -, -, -, rfl⟩ := O
  intro H lsA hR hL locs hS
  exact lv_fcmp hx hb (hdg := hdg) (k := (k H lsA hR hL locs hS))
theorem z_i2f (O : zOK G l own cc nL ret ws R mc ms et PQ PX ini X) {x : Int32} (hdg : decode cc pc = .ok (.i2f, 1))  (k : zV G X nL kc ks (pc + 1) lsv (.float (FP.i2f x) :: rest) w ad) : zV G X nL kc ks pc lsv (.int x :: rest) w ad := by
  obtain ⟨p, e, s, m, args, below, meth, c, hx, hb, -, -, -, -, -, -, -, -, -, -, -, rfl⟩ := O
  intro H lsA hR hL locs hS
  exact lv_i2f hx hb (hdg := hdg) (k := (k H lsA hR hL locs hS))
theorem z_dcmp (O : zOK G l own cc nL ret ws R mc ms et PQ PX ini X) {x y : UInt64} {op : CmpOp} (hdg : decode cc pc = .ok (.dcmp op, 1))  (k : zV G X nL kc ks (pc + 1) lsv (.int (Op.cmpValue (FP.dcmp x y) op) :: rest) w ad) : zV G X nL kc ks pc lsv (.double y :: .double x :: rest) w ad := by
  obtain ⟨p, e, s, m, args, below, meth, c, hx, hb, -, -, -, -, -, -, -, -, -, -, -, rfl⟩ := O
  intro H lsA hR hL locs hS
  exact lv_dcmp hx hb (hdg := hdg) (k := (k H lsA hR hL locs hS))
theorem z_i2d (O : zOK G l own cc nL ret ws R mc ms et PQ PX ini X) {x : Int32} (hdg : decode cc pc = .ok (.i2d, 1))  (k : zV G X nL kc ks (pc + 1) lsv (.double (FP.i2d x) :: rest) w ad) : zV G X nL kc ks pc lsv (.int x :: rest) w ad := by
  obtain ⟨p, e, s, m, args, below, meth, c, hx, hb, -, -, -, -, -, -, -, -, -, -, -, rfl⟩ := O
  intro H lsA hR hL locs hS
  exact lv_i2d hx hb (hdg := hdg) (k := (k H lsA hR hL locs hS))
theorem z_f2d (O : zOK G l own cc nL ret ws R mc ms et PQ PX ini X) {x : UInt32} (hdg : decode cc pc = .ok (.f2d, 1)) (hne : vf_n64 (FP.f2d x)) (k : zV G X nL kc ks (pc + 1) lsv (.double (FP.f2d x) :: rest) w ad) : zV G X nL kc ks pc lsv (.float x :: rest) w ad := by
  obtain ⟨p, e, s, m, args, below, meth, c, hx, hb, -, -, -, -, -, -, -, -, -, -, -, rfl⟩ := O
  intro H lsA hR hL locs hS
  exact lv_f2d hx hb (hdg := hdg) (hne := hne) (k := (k H lsA hR hL locs hS))
theorem z_null (O : zOK G l own cc nL ret ws R mc ms et PQ PX ini X) (hdg : decode cc pc = .ok (.aconst_null, 1)) (k : zV G X nL kc ks (pc + 1) lsv (.null :: rest) w ad) : zV G X nL kc ks pc lsv rest w ad := by
  obtain ⟨p, e, s, m, args, below, meth, c, hx, hb, -, -, -, -, -, -, -, -, -, -, -, rfl⟩ := O
  intro H lsA hR hL locs hS
  exact lv_null hx hb (hdg := hdg) (k := (k H lsA hR hL locs hS))
theorem z_acmp_eq (O : zOK G l own cc nL ret ws R mc ms et PQ PX ini X) {rx ry : Option Nat} {off : Int} {tgt : Nat} (hdg : decode cc pc = .ok (.if_acmp .eq off, 3)) (ht : (pc : Int) + off = (tgt : Int)) (kt : rx = ry → zV G X nL kc ks tgt lsv rest w ad) (kf : ¬ rx = ry → zV G X nL kc ks (pc + 3) lsv rest w ad) : zV G X nL kc ks pc lsv (va_rf ry :: va_rf rx :: rest) w ad := by
  obtain ⟨p, e, s, m, args, below, meth, c, hx, hb, -, -, -, -, -, -, -, -, -, -, -, rfl⟩ := O
  intro H lsA hR hL locs hS
  exact lv_acmp_eq hx hb (hdg := hdg) (ht := ht) (kt := fun h => kt h H lsA hR hL locs hS) (kf := fun h => kf h H lsA hR hL locs hS)
theorem z_acmp_ne (O : zOK G l own cc nL ret ws R mc ms et PQ PX ini X) {rx ry : Option Nat} {off : Int} {tgt : Nat} (hdg : decode cc pc = .ok (.if_acmp .ne off, 3)) (ht : (pc : Int) + off = (tgt : Int)) (kt : ¬ rx = ry → zV G X nL kc ks tgt lsv rest w ad) (kf : rx = ry → zV G X nL kc ks (pc + 3) lsv rest w ad) : zV G X nL kc ks pc lsv (va_rf ry :: va_rf rx :: rest) w ad := by
  obtain ⟨p, e, s, m, args, below, meth, c, hx, hb, -, -, -, -, -, -, -, -, -, -, -, rfl⟩ := O
  intro H lsA hR hL locs hS
  exact lv_acmp_ne hx hb (hdg := hdg) (ht := ht) (kt := fun h => kt h H lsA hR hL locs hS) (kf := fun h => kf h H lsA hR hL locs hS)
theorem z_ifnull (O : zOK G l own cc nL ret ws R mc ms et PQ PX ini X) {x : Nat} {off : Int} (hdg : decode cc pc = .ok (.ifnull off, 3)) (k : zV G X nL kc ks (pc + 3) lsv rest w ad) : zV G X nL kc ks pc lsv (.ref x :: rest) w ad := by
  obtain ⟨p, e, s, m, args, below, meth, c, hx, hb, -, -, -, -, -, -, -, -, -, -, -, rfl⟩ := O
  intro H lsA hR hL locs hS
  exact lv_ifnull hx hb (hdg := hdg) (k := (k H lsA hR hL locs hS))
theorem z_ifnonnull (O : zOK G l own cc nL ret ws R mc ms et PQ PX ini X) {x : Nat} {off : Int} {tgt : Nat} (hdg : decode cc pc = .ok (.ifnonnull off, 3)) (ht : (pc : Int) + off = (tgt : Int)) (k : zV G X nL kc ks tgt lsv rest w ad) : zV G X nL kc ks pc lsv (.ref x :: rest) w ad := by
  obtain ⟨p, e, s, m, args, below, meth, c, hx, hb, -, -, -, -, -, -, -, -, -, -, -, rfl⟩ := O
  intro H lsA hR hL locs hS
  exact lv_ifnonnull hx hb (hdg := hdg) (ht := ht) (k := (k H lsA hR hL locs hS))
theorem z_ifnullN (O : zOK G l own cc nL ret ws R mc ms et PQ PX ini X) {off : Int} {tgt : Nat} (hdg : decode cc pc = .ok (.ifnull off, 3)) (ht : (pc : Int) + off = (tgt : Int)) (k : zV G X nL kc ks tgt lsv rest w ad) : zV G X nL kc ks pc lsv (.null :: rest) w ad := by
  obtain ⟨p, e, s, m, args, below, meth, c, hx, hb, -, -, -, -, -, -, -, -, -, -, -, rfl⟩ := O
  intro H lsA hR hL locs hS
  exact lv_ifnullN hx hb (hdg := hdg) (ht := ht) (k := (k H lsA hR hL locs hS))
theorem z_ifnonnullN (O : zOK G l own cc nL ret ws R mc ms et PQ PX ini X) {off : Int} (hdg : decode cc pc = .ok (.ifnonnull off, 3)) (k : zV G X nL kc ks (pc + 3) lsv rest w ad) : zV G X nL kc ks pc lsv (.null :: rest) w ad := by
  obtain ⟨p, e, s, m, args, below, meth, c, hx, hb, -, -, -, -, -, -, -, -, -, -, -, rfl⟩ := O
  intro H lsA hR hL locs hS
  exact lv_ifnonnullN hx hb (hdg := hdg) (k := (k H lsA hR hL locs hS))
theorem z_castN (O : zOK G l own cc nL ret ws R mc ms et PQ PX ini X) {index : Nat} (hdg : decode cc pc = .ok (.checkcast index, 3)) (k : zV G X nL kc ks (pc + 3) lsv (.null :: rest) w ad) : zV G X nL kc ks pc lsv (.null :: rest) w ad := by
  obtain ⟨p, e, s, m, args, below, meth, c, hx, hb, -, -, -, -, -, -, -, -, -, -, -, rfl⟩ := O
  intro H lsA hR hL locs hS
  exact lv_castN hx hb (hdg := hdg) (k := (k H lsA hR hL locs hS))
theorem z_tableIn (O : zOK G l own cc nL ret ws R mc ms et PQ PX ini X) {dflt lo hi : Int} {offs : Array Int} {len : Nat} {x : Int32} {off : Int} {tgt : Nat} (hdg : decode cc pc = .ok (.tableswitch dflt lo hi offs, len)) (h1 : ¬ x.toInt < lo) (h2 : ¬ hi < x.toInt) (ho : offs[(x.toInt - lo).toNat]? = some off) (ht : (pc : Int) + off = (tgt : Int)) (k : zV G X nL kc ks tgt lsv rest w ad) : zV G X nL kc ks pc lsv (.int x :: rest) w ad := by
  obtain ⟨p, e, s, m, args, below, meth, c, hx, hb, -, -, -, -, -, -, -, -, -, -, -, rfl⟩ := O
  intro H lsA hR hL locs hS
  exact lv_tableIn hx hb (hdg := hdg) (h1 := h1) (h2 := h2) (ho := ho) (ht := ht) (k := (k H lsA hR hL locs hS))
theorem z_tableOut (O : zOK G l own cc nL ret ws R mc ms et PQ PX ini X) {dflt lo hi : Int} {offs : Array Int} {len : Nat} {x : Int32} {tgt : Nat} (hdg : decode cc pc = .ok (.tableswitch dflt lo hi offs, len)) (h : x.toInt < lo ∨ hi < x.toInt) (ht : (pc : Int) + dflt = (tgt : Int)) (k : zV G X nL kc ks tgt lsv rest w ad) : zV G X nL kc ks pc lsv (.int x :: rest) w ad := by
  obtain ⟨p, e, s, m, args, below, meth, c, hx, hb, -, -, -, -, -, -, -, -, -, -, -, rfl⟩ := O
  intro H lsA hR hL locs hS
  exact lv_tableOut hx hb (hdg := hdg) (h := h) (ht := ht) (k := (k H lsA hR hL locs hS))
theorem z_iload_n (O : zOK G l own cc nL ret ws R mc ms et PQ PX ini X) {k : Fin 4} {x : Int32} (hdg : decode cc pc = .ok (.iload_n k, 1)) (hl : zL lsv k = some (.int x)) (kk : zV G X nL kc ks (pc + 1) lsv (.int x :: rest) w ad) : zV G X nL kc ks pc lsv rest w ad := by
  obtain ⟨p, e, s, m, args, below, meth, c, hx, hb, -, -, -, -, -, -, -, -, -, -, -, rfl⟩ := O
  intro H lsA hR hL locs hS
  exact lv_iload_n hx hb hdg rfl (zL_at hL hl) (kk H lsA hR hL locs hS)
theorem z_iload (O : zOK G l own cc nL ret ws R mc ms et PQ PX ini X) {k : Nat} {x : Int32} (hdg : decode cc pc = .ok (.iload k, 2)) (hl : zL lsv k = some (.int x)) (kk : zV G X nL kc ks (pc + 2) lsv (.int x :: rest) w ad) : zV G X nL kc ks pc lsv rest w ad := by
  obtain ⟨p, e, s, m, args, below, meth, c, hx, hb, -, -, -, -, -, -, -, -, -, -, -, rfl⟩ := O
  intro H lsA hR hL locs hS
  exact lv_iload hx hb hdg (zL_at hL hl) (kk H lsA hR hL locs hS)
theorem z_aload_n (O : zOK G l own cc nL ret ws R mc ms et PQ PX ini X) {k : Fin 4} {x : Nat} (hdg : decode cc pc = .ok (.aload_n k, 1)) (hl : zL lsv k = some (.ref x)) (kk : zV G X nL kc ks (pc + 1) lsv (.ref x :: rest) w ad) : zV G X nL kc ks pc lsv rest w ad := by
  obtain ⟨p, e, s, m, args, below, meth, c, hx, hb, -, -, -, -, -, -, -, -, -, -, -, rfl⟩ := O
  intro H lsA hR hL locs hS
  exact lv_aload_n hx hb hdg rfl (zL_at hL hl) (kk H lsA hR hL locs hS)
theorem z_aload (O : zOK G l own cc nL ret ws R mc ms et PQ PX ini X) {k : Nat} {x : Nat} (hdg : decode cc pc = .ok (.aload k, 2)) (hl : zL lsv k = some (.ref x)) (kk : zV G X nL kc ks (pc + 2) lsv (.ref x :: rest) w ad) : zV G X nL kc ks pc lsv rest w ad := by
  obtain ⟨p, e, s, m, args, below, meth, c, hx, hb, -, -, -, -, -, -, -, -, -, -, -, rfl⟩ := O
  intro H lsA hR hL locs hS
  exact lv_aload hx hb hdg (zL_at hL hl) (kk H lsA hR hL locs hS)
theorem z_aload_nN (O : zOK G l own cc nL ret ws R mc ms et PQ PX ini X) {k : Fin 4} (hdg : decode cc pc = .ok (.aload_n k, 1)) (hl : zL lsv k = some .null) (kk : zV G X nL kc ks (pc + 1) lsv (.null :: rest) w ad) : zV G X nL kc ks pc lsv rest w ad := by
  obtain ⟨p, e, s, m, args, below, meth, c, hx, hb, -, -, -, -, -, -, -, -, -, -, -, rfl⟩ := O
  intro H lsA hR hL locs hS
  exact lv_aload_nN hx hb hdg rfl (zL_at hL hl) (kk H lsA hR hL locs hS)
theorem z_aloadN (O : zOK G l own cc nL ret ws R mc ms et PQ PX ini X) {k : Nat} (hdg : decode cc pc = .ok (.aload k, 2)) (hl : zL lsv k = some .null) (kk : zV G X nL kc ks (pc + 2) lsv (.null :: rest) w ad) : zV G X nL kc ks pc lsv rest w ad := by
  obtain ⟨p, e, s, m, args, below, meth, c, hx, hb, -, -, -, -, -, -, -, -, -, -, -, rfl⟩ := O
  intro H lsA hR hL locs hS
  exact lv_aloadN hx hb hdg (zL_at hL hl) (kk H lsA hR hL locs hS)
theorem z_lload_n (O : zOK G l own cc nL ret ws R mc ms et PQ PX ini X) {k : Fin 4} {x : Int64} (hdg : decode cc pc = .ok (.lload_n k, 1)) (hl : zL lsv k = some (.long x)) (kk : zV G X nL kc ks (pc + 1) lsv (.long x :: rest) w ad) : zV G X nL kc ks pc lsv rest w ad := by
  obtain ⟨p, e, s, m, args, below, meth, c, hx, hb, -, -, -, -, -, -, -, -, -, -, -, rfl⟩ := O
  intro H lsA hR hL locs hS
  exact lv_lload_n hx hb hdg rfl (zL_at hL hl) (kk H lsA hR hL locs hS)
theorem z_fload (O : zOK G l own cc nL ret ws R mc ms et PQ PX ini X) {k : Nat} {x : UInt32} (hdg : decode cc pc = .ok (.fload k, 2)) (hl : zL lsv k = some (.float x)) (kk : zV G X nL kc ks (pc + 2) lsv (.float x :: rest) w ad) : zV G X nL kc ks pc lsv rest w ad := by
  obtain ⟨p, e, s, m, args, below, meth, c, hx, hb, -, -, -, -, -, -, -, -, -, -, -, rfl⟩ := O
  intro H lsA hR hL locs hS
  exact lv_fload hx hb hdg (zL_at hL hl) (kk H lsA hR hL locs hS)
theorem z_dload (O : zOK G l own cc nL ret ws R mc ms et PQ PX ini X) {k : Nat} {x : UInt64} (hdg : decode cc pc = .ok (.dload k, 2)) (hl : zL lsv k = some (.double x)) (kk : zV G X nL kc ks (pc + 2) lsv (.double x :: rest) w ad) : zV G X nL kc ks pc lsv rest w ad := by
  obtain ⟨p, e, s, m, args, below, meth, c, hx, hb, -, -, -, -, -, -, -, -, -, -, -, rfl⟩ := O
  intro H lsA hR hL locs hS
  exact lv_dload hx hb hdg (zL_at hL hl) (kk H lsA hR hL locs hS)
theorem z_istore_n (O : zOK G l own cc nL ret ws R mc ms et PQ PX ini X) {k : Fin 4} {x : Int32} (hdg : decode cc pc = .ok (.istore_n k, 1)) (hn : (k : Nat) < nL) (kk : zV G X nL kc ks (pc + 1) (zS lsv k (.int x)) rest w ad) : zV G X nL kc ks pc lsv (.int x :: rest) w ad := by
  obtain ⟨p, e, s, m, args, below, meth, c, hx, hb, -, -, -, -, -, -, -, -, -, -, -, rfl⟩ := O
  intro H lsA hR hL locs hS
  exact lv_istore_n hx hb hdg rfl hL hn rfl (fun ls' h' => kk H ls' hR h' locs hS)
theorem z_istore (O : zOK G l own cc nL ret ws R mc ms et PQ PX ini X) {k : Nat} {x : Int32} (hdg : decode cc pc = .ok (.istore k, 2)) (hn : k < nL) (kk : zV G X nL kc ks (pc + 2) (zS lsv k (.int x)) rest w ad) : zV G X nL kc ks pc lsv (.int x :: rest) w ad := by
  obtain ⟨p, e, s, m, args, below, meth, c, hx, hb, -, -, -, -, -, -, -, -, -, -, -, rfl⟩ := O
  intro H lsA hR hL locs hS
  exact lv_istore hx hb hdg hL hn rfl (fun ls' h' => kk H ls' hR h' locs hS)
theorem z_astore_n (O : zOK G l own cc nL ret ws R mc ms et PQ PX ini X) {k : Fin 4} {x : Nat} (hdg : decode cc pc = .ok (.astore_n k, 1)) (hn : (k : Nat) < nL) (kk : zV G X nL kc ks (pc + 1) (zS lsv k (.ref x)) rest w ad) : zV G X nL kc ks pc lsv (.ref x :: rest) w ad := by
  obtain ⟨p, e, s, m, args, below, meth, c, hx, hb, -, -, -, -, -, -, -, -, -, -, -, rfl⟩ := O
  intro H lsA hR hL locs hS
  exact lv_astore_n hx hb hdg rfl hL hn rfl (fun ls' h' => kk H ls' hR h' locs hS)
theorem z_astore (O : zOK G l own cc nL ret ws R mc ms et PQ PX ini X) {k : Nat} {x : Nat} (hdg : decode cc pc = .ok (.astore k, 2)) (hn : k < nL) (kk : zV G X nL kc ks (pc + 2) (zS lsv k (.ref x)) rest w ad) : zV G X nL kc ks pc lsv (.ref x :: rest) w ad := by
  obtain ⟨p, e, s, m, args, below, meth, c, hx, hb, -, -, -, -, -, -, -, -, -, -, -, rfl⟩ := O
  intro H lsA hR hL locs hS
  exact lv_astore hx hb hdg hL hn rfl (fun ls' h' => kk H ls' hR h' locs hS)
theorem z_astore_nN (O : zOK G l own cc nL ret ws R mc ms et PQ PX ini X) {k : Fin 4} (hdg : decode cc pc = .ok (.astore_n k, 1)) (hn : (k : Nat) < nL) (kk : zV G X nL kc ks (pc + 1) (zS lsv k .null) rest w ad) : zV G X nL kc ks pc lsv (.null :: rest) w ad := by
  obtain ⟨p, e, s, m, args, below, meth, c, hx, hb, -, -, -, -, -, -, -, -, -, -, -, rfl⟩ := O
  intro H lsA hR hL locs hS
  exact lv_astore_nN hx hb hdg rfl hL hn rfl (fun ls' h' => kk H ls' hR h' locs hS)
theorem z_astoreN (O : zOK G l own cc nL ret ws R mc ms et PQ PX ini X) {k : Nat} (hdg : decode cc pc = .ok (.astore k, 2)) (hn : k < nL) (kk : zV G X nL kc ks (pc + 2) (zS lsv k .null) rest w ad) : zV G X nL kc ks pc lsv (.null :: rest) w ad := by
  obtain ⟨p, e, s, m, args, below, meth, c, hx, hb, -, -, -, -, -, -, -, -, -, -, -, rfl⟩ := O
  intro H lsA hR hL locs hS
  exact lv_astoreN hx hb hdg hL hn rfl (fun ls' h' => kk H ls' hR h' locs hS)
theorem z_lstore_n (O : zOK G l own cc nL ret ws R mc ms et PQ PX ini X) {k : Fin 4} {x : Int64} (hdg : decode cc pc = .ok (.lstore_n k, 1)) (hn : (k : Nat) + 1 < nL) (kk : zV G X nL kc ks (pc + 1) (zS2 lsv k (.long x)) rest w ad) : zV G X nL kc ks pc lsv (.long x :: rest) w ad := by
  obtain ⟨p, e, s, m, args, below, meth, c, hx, hb, -, -, -, -, -, -, -, -, -, -, -, rfl⟩ := O
  intro H lsA hR hL locs hS
  exact lv_lstore_n hx hb hdg rfl hL hn rfl (fun ls' h' => kk H ls' hR h' locs hS)
theorem z_fstore (O : zOK G l own cc nL ret ws R mc ms et PQ PX ini X) {k : Nat} {x : UInt32} (hdg : decode cc pc = .ok (.fstore k, 2)) (hn : k < nL) (kk : zV G X nL kc ks (pc + 2) (zS lsv k (.float x)) rest w ad) : zV G X nL kc ks pc lsv (.float x :: rest) w ad := by
  obtain ⟨p, e, s, m, args, below, meth, c, hx, hb, -, -, -, -, -, -, -, -, -, -, -, rfl⟩ := O
  intro H lsA hR hL locs hS
  exact lv_fstore hx hb hdg hL hn rfl (fun ls' h' => kk H ls' hR h' locs hS)
theorem z_dstore (O : zOK G l own cc nL ret ws R mc ms et PQ PX ini X) {k : Nat} {x : UInt64} (hdg : decode cc pc = .ok (.dstore k, 2)) (hn : k + 1 < nL) (kk : zV G X nL kc ks (pc + 2) (zS2 lsv k (.double x)) rest w ad) : zV G X nL kc ks pc lsv (.double x :: rest) w ad := by
  obtain ⟨p, e, s, m, args, below, meth, c, hx, hb, -, -, -, -, -, -, -, -, -, -, -, rfl⟩ := O
  intro H lsA hR hL locs hS
  exact lv_dstore hx hb hdg hL hn rfl (fun ls' h' => kk H ls' hR h' locs hS)
theorem z_iinc (O : zOK G l own cc nL ret ws R mc ms et PQ PX ini X) {i : Nat} {n : Int} {x v : Int32} (hdg : decode cc pc = .ok (.iinc i n, 3)) (hl : zL lsv i = some (.int x)) (hv : x + Int32.ofInt n = v) (hn : i < nL) (kk : zV G X nL kc ks (pc + 3) (zS lsv i (.int v)) rest w ad) : zV G X nL kc ks pc lsv rest w ad := by
  obtain ⟨p, e, s, m, args, below, meth, c, hx, hb, -, -, -, -, -, -, -, -, -, -, -, rfl⟩ := O
  intro H lsA hR hL locs hS
  obtain ⟨k, hk⟩ := List.getElem?_of_mem (zL_mem hl)
  exact lv_iinc hx hb hdg hL hk hv hn rfl (fun ls' h' => kk H ls' hR h' locs hS)
theorem z_ldc (O : zOK G l own cc nL ret ws R mc ms et PQ PX ini X) {i : Nat} {v : Int32} (hc : Cond.constant own i v ∈ ws) (hdg : decode cc pc = .ok (.ldc i, 2)) (kk : zV G X nL kc ks (pc + 2) lsv (.int v :: rest) w ad) : zV G X nL kc ks pc lsv rest w ad := by
  obtain ⟨p, e, s, m, args, below, meth, c, hx, hb, -, hts, hown, -, -, -, -, -, -, -, -, rfl⟩ := O
  intro H lsA hR hL locs hS
  exact lv_ldc hx hb hown (hts _ hc) hdg (kk H lsA hR hL locs hS)
/-- a null or a cell is loaded: by cases -/
theorem z_rf_ifnull (O : zOK G l own cc nL ret ws R mc ms et PQ PX ini X) {r : Option Nat} {off : Int} {tgt : Nat} (hdg : decode cc pc = .ok (.ifnull off, 3)) (ht : (pc : Int) + off = (tgt : Int)) (kt : r = none → zV G X nL kc ks tgt lsv rest w ad) (kf : ∀ a, r = some a → zV G X nL kc ks (pc + 3) lsv rest w ad) : zV G X nL kc ks pc lsv (va_rf r :: rest) w ad := by
  cases r with
  | none => exact z_ifnullN O hdg ht (kt rfl)
  | some a => exact z_ifnull O hdg (kf a rfl)
theorem z_rf_ifnonnull (O : zOK G l own cc nL ret ws R mc ms et PQ PX ini X) {r : Option Nat} {off : Int} {tgt : Nat} (hdg : decode cc pc = .ok (.ifnonnull off, 3)) (ht : (pc : Int) + off = (tgt : Int)) (kt : ∀ a, r = some a → zV G X nL kc ks tgt lsv rest w ad) (kf : r = none → zV G X nL kc ks (pc + 3) lsv rest w ad) : zV G X nL kc ks pc lsv (va_rf r :: rest) w ad := by
  cases r with
  | none => exact z_ifnonnullN O hdg (kf rfl)
  | some a => exact z_ifnonnull O hdg ht (kt a rfl)
theorem zP1 {D : va_G} {q : Nat × va_E} {H : Heap} (h : va_at D vwCl q H) : va_P D vwCl [q] H := by
  intro k x hk
  match k, hk with
  | 0, hk => cases hk; exact h
  | k + 1, hk => simp at hk
/-- a field is read -/
theorem z_get (O : zOK G l own cc nL ret ws R mc ms et PQ PX ini X) {C : String} {T : u_T} {N ci i fk index : Nat} {fs : List Value} {v : Value} (hin : ∀ x ∈ u_ws C T N, x ∈ ws) (hc : vwCl[ci]? = some (C, T, N)) (hk : fk < N) (hlink : Cond.fieldLink own index (T fk).1 (T fk).2.1 (T fk).2.2.1 ∈ ws) (hdg : decode cc pc = .ok (.getfield index, 3)) (hw : w i = some (.inr (ci, fs))) (hv : fs[fk]? = some v)
    (kk : zV G X nL kc ks (pc + 3) lsv (v :: rest) w ad) : zV G X nL kc ks pc lsv (.ref (ad i) :: rest) w ad := by
  obtain ⟨p, e, s, m, args, below, meth, c, hx, hb, hr, hts, hown, hlocks, hml, het, hini, hbase, hK, hSt, hfl, rfl⟩ := O
  intro H lsA hR hL locs hS
  exact va_get (ref := (T fk).1) hx hb hts hin hown hK (zP1 (hR.1 i _ hw).2) 0 (fs := fs) rfl hc fk hk (hts _ hlink) (fun _ h => h) hv hdg (kk H lsA hR hL locs hS)
/-- a field is written -/
theorem z_put (O : zOK G l own cc nL ret ws R mc ms et PQ PX ini X) {C : String} {T : u_T} {N ci i fk index : Nat} {fs : List Value} {v : Value} {w' : zH} (hin : ∀ x ∈ u_ws C T N, x ∈ ws) (ty0 : Nat → FieldType) (hty : ∀ k, k < N → parseFieldDescriptor (T k).2.2.1 = some (ty0 k)) (hnm : ∀ a, a < N → ∀ b, b < N → a ≠ b → (T a).2.1 ≠ (T b).2.1) (hc : vwCl[ci]? = some (C, T, N)) (hk : fk < N) (hlink : Cond.fieldLink own index (T fk).1 (T fk).2.1 (T fk).2.2.1 ∈ ws) (hfin : (T fk).2.2.2 = false) (hdg : decode cc pc = .ok (.putfield index, 3)) (hn : narrow (ty0 fk) v = v) (hfit : fits (ty0 fk) v = true)
    (hw : w i = some (.inr (ci, fs))) (hl : fk < fs.length) (hw' : ∀ j, w' j = if j = i then some (.inr (ci, fs.set fk v)) else w j) (kk : zV G X nL kc ks (pc + 3) lsv rest w' ad) : zV G X nL kc ks pc lsv (v :: .ref (ad i) :: rest) w ad := by
  obtain ⟨p, e, s, m, args, below, meth, c, hx, hb, hr, hts, hown, hlocks, hml, het, hini, hbase, hK, hSt, hfl, rfl⟩ := O
  intro H lsA hR hL locs hS
  have hap := va_apart (own := own) hts hin ty0 hty hnm hK hc
  have hAt := hR.1 i _ hw
  obtain ⟨r, h1, cell, q1, q2, q3, q4⟩ := hAt.2
  have hr2 : r = (C, T, N) := Option.some.inj (h1.symm.trans hc)
  subst hr2
  obtain ⟨hSl, hfc, kC, hkC, hkind⟩ := hK.1 ci _ hc
  obtain ⟨cf, kf, fi, f, hi, hsl⟩ := hSl fk hk
  have hlay := hts _ (hin _ (u_in_lay hk))
  unfold u_lay at hlay
  rw [if_neg (by rw [hfin]; decide)] at hlay
  have hst := (u_facts hfc hkC (u_lays hts hin hk) hi).1
  have h6 := u_store hfc hkC hkind hlay hi (hty fk hk) hn hfit
  refine W.putK hx hb (f := f) ⟨hown, hts _ hlink, ⟨_, _, _, hi⟩, hst⟩ (by rw [q2]; exact h6) q1 q3 (by rw [hsl]; exact k2_hasslot (q4 fk hk)) rfl rfl hdg fun H' e1 e2 e3 => ?_
  rw [hsl] at e1 ⊢
  exact kk H' lsA (hR.put (e := .inr (ci, fs.set fk v)) hw ⟨_, hc, t_OB.to (V := updV (vp_V fs) fk v) ⟨_, e1, q2, q3, t_set q4 hap hk v⟩ (fun j _ => vp_updV_set hl v j)⟩ e3 hw') hL _ (hS.put e2 e3 hAt.1)
/-- a final field is written, in the class's own constructor -/
theorem z_putF (O : zOK G l own cc nL ret ws R mc ms et PQ PX ini X) (hi0 : ini) {T : u_T} {N ci i fk index : Nat} {fs : List Value} {v : Value} {w' : zH} (hin : ∀ x ∈ u_ws own T N, x ∈ ws) (ty0 : Nat → FieldType) (hty : ∀ k, k < N → parseFieldDescriptor (T k).2.2.1 = some (ty0 k)) (hnm : ∀ a, a < N → ∀ b, b < N → a ≠ b → (T a).2.1 ≠ (T b).2.1) (hc : vwCl[ci]? = some (own, T, N)) (hk : fk < N) (hlink : Cond.fieldLink own index (T fk).1 (T fk).2.1 (T fk).2.2.1 ∈ ws) (hfin : (T fk).2.2.2 = true) (hdecl : (T fk).1 = own) (hdg : decode cc pc = .ok (.putfield index, 3)) (hn : narrow (ty0 fk) v = v) (hfit : fits (ty0 fk) v = true)
    (hw : w i = some (.inr (ci, fs))) (hl : fk < fs.length) (hw' : ∀ j, w' j = if j = i then some (.inr (ci, fs.set fk v)) else w j) (kk : zV G X nL kc ks (pc + 3) lsv rest w' ad) : zV G X nL kc ks pc lsv (v :: .ref (ad i) :: rest) w ad := by
  obtain ⟨p, e, s, m, args, below, meth, c, hx, hb, hr, hts, hown, hlocks, hml, het, hini, hbase, hK, hSt, hfl, rfl⟩ := O
  intro H lsA hR hL locs hS
  have hap := va_apart (own := own) hts hin ty0 hty hnm hK hc
  have hAt := hR.1 i _ hw
  obtain ⟨r, h1, cell, q1, q2, q3, q4⟩ := hAt.2
  have hr2 : r = (own, T, N) := Option.some.inj (h1.symm.trans hc)
  subst hr2
  obtain ⟨hSl, hfc, kC, hkC, hkind⟩ := hK.1 ci _ hc
  obtain ⟨cf, kf, fi, f, hi, hsl⟩ := hSl fk hk
  have hlay := hts _ (hin _ (u_in_lay hk))
  unfold u_lay at hlay
  rw [if_pos hfin] at hlay
  have hst := (u_facts hfc hkC (u_lays hts hin hk) hi).1
  have hcf : m.cls = cf := by
    obtain ⟨_, _, c', _, _, _, -, -, hf', -, -, -, hown2, -⟩ := Cond.laysFinal_spec hlay
    have e1 : c' = cf := by have := hi.symm.trans hf'; simp at this; exact this.1.symm
    rw [hdecl] at hown2
    rw [← e1]; exact Option.some.inj (hown.symm.trans hown2)
  have h6 := u_fits hfc hkC hkind (Or.inr hlay) hi (hty fk hk) hn hfit
  refine W.putFinK hx hb hown (hts _ hlink) hi hst hcf (hini hi0) (by rw [q2]; exact h6) q1 q3 (by rw [hsl]; exact k2_hasslot (q4 fk hk)) rfl rfl hdg fun H' e1 e2 e3 => ?_
  rw [hsl] at e1 ⊢
  exact kk H' lsA (hR.put (e := .inr (ci, fs.set fk v)) hw ⟨_, hc, t_OB.to (V := updV (vp_V fs) fk v) ⟨_, e1, q2, q3, t_set q4 hap hk v⟩ (fun j _ => vp_updV_set hl v j)⟩ e3 hw') hL _ (hS.put e2 e3 hAt.1)
theorem z_in {x : Int32} {j n : Nat} (hx : x = nI j) (hj : j < n) (hn : n < 2 ^ 31) : vp_in x n ∧ x.toNatClampNeg = j := by
  subst hx
  exact ⟨vp_in_nI hj hn, nI_clamp (by omega)⟩
/-- an array of ints is read -/
theorem z_iald (O : zOK G l own cc nL ret ws R mc ms et PQ PX ini X) {i n : Nat} {f : Nat → Int32} {x : Int32} (hdg : decode cc pc = .ok (.iaload, 1)) (hw : w i = some (.inl (0, (n, .inl f)))) (j : Nat) (hx : x = nI j) (hj : j < n) (hn : n < 2 ^ 31)
    (kk : zV G X nL kc ks (pc + 1) lsv (.int (f j) :: rest) w ad) : zV G X nL kc ks pc lsv (.int x :: .ref (ad i) :: rest) w ad := by
  obtain ⟨p, e, s, m, args, below, meth, c, hx0, hb, hr, hts, hown, hlocks, hml, het, hini, hbase, hK, hSt, hfl, rfl⟩ := O
  intro H lsA hR hL locs hS
  obtain ⟨h1, h2⟩ := z_in hx hj hn
  have k9 := kk H lsA hR hL locs hS
  rw [← h2] at k9
  exact va_iald hx0 hb hK (zP1 (hR.1 i _ hw).2) 0 0 rfl (zTys_get G (by decide)) h1 hdg k9
theorem z_cald (O : zOK G l own cc nL ret ws R mc ms et PQ PX ini X) {i n : Nat} {f : Nat → Int32} {x : Int32} (hdg : decode cc pc = .ok (.caload, 1)) (hw : w i = some (.inl (1, (n, .inl f)))) (j : Nat) (hx : x = nI j) (hj : j < n) (hn : n < 2 ^ 31)
    (kk : zV G X nL kc ks (pc + 1) lsv (.int (f j) :: rest) w ad) : zV G X nL kc ks pc lsv (.int x :: .ref (ad i) :: rest) w ad := by
  obtain ⟨p, e, s, m, args, below, meth, c, hx0, hb, hr, hts, hown, hlocks, hml, het, hini, hbase, hK, hSt, hfl, rfl⟩ := O
  intro H lsA hR hL locs hS
  obtain ⟨h1, h2⟩ := z_in hx hj hn
  have k9 := kk H lsA hR hL locs hS
  rw [← h2] at k9
  exact va_cald hx0 hb hK (zP1 (hR.1 i _ hw).2) 0 1 rfl (zTys_get G (by decide)) h1 hdg k9
theorem z_zald (O : zOK G l own cc nL ret ws R mc ms et PQ PX ini X) {i n : Nat} {f : Nat → Int32} {x : Int32} (hdg : decode cc pc = .ok (.baload, 1)) (hw : w i = some (.inl (2, (n, .inl f)))) (j : Nat) (hx : x = nI j) (hj : j < n) (hn : n < 2 ^ 31)
    (kk : zV G X nL kc ks (pc + 1) lsv (.int (f j) :: rest) w ad) : zV G X nL kc ks pc lsv (.int x :: .ref (ad i) :: rest) w ad := by
  obtain ⟨p, e, s, m, args, below, meth, c, hx0, hb, hr, hts, hown, hlocks, hml, het, hini, hbase, hK, hSt, hfl, rfl⟩ := O
  intro H lsA hR hL locs hS
  obtain ⟨h1, h2⟩ := z_in hx hj hn
  have k9 := kk H lsA hR hL locs hS
  rw [← h2] at k9
  exact va_zald hx0 hb hK (zP1 (hR.1 i _ hw).2) 0 2 rfl (zTys_get G (by decide)) h1 hdg k9
theorem z_lald (O : zOK G l own cc nL ret ws R mc ms et PQ PX ini X) {i n : Nat} {f : Nat → Int64} {x : Int32} (hdg : decode cc pc = .ok (.laload, 1)) (hw : w i = some (.inl (3, (n, .inr (.inl f))))) (j : Nat) (hx : x = nI j) (hj : j < n) (hn : n < 2 ^ 31)
    (kk : zV G X nL kc ks (pc + 1) lsv (.long (f j) :: rest) w ad) : zV G X nL kc ks pc lsv (.int x :: .ref (ad i) :: rest) w ad := by
  obtain ⟨p, e, s, m, args, below, meth, c, hx0, hb, hr, hts, hown, hlocks, hml, het, hini, hbase, hK, hSt, hfl, rfl⟩ := O
  intro H lsA hR hL locs hS
  obtain ⟨h1, h2⟩ := z_in hx hj hn
  have k9 := kk H lsA hR hL locs hS
  rw [← h2] at k9
  exact va_lald hx0 hb hK (zP1 (hR.1 i _ hw).2) 0 3 rfl (zTys_get G (by decide)) h1 hdg k9
theorem z_dald (O : zOK G l own cc nL ret ws R mc ms et PQ PX ini X) {i n : Nat} {f : Nat → UInt64} {x : Int32} (hdg : decode cc pc = .ok (.daload, 1)) (hw : w i = some (.inl (4, (n, .inr (.inr (.inr (.inl f))))))) (j : Nat) (hx : x = nI j) (hj : j < n) (hn : n < 2 ^ 31)
    (kk : zV G X nL kc ks (pc + 1) lsv (.double (f j) :: rest) w ad) : zV G X nL kc ks pc lsv (.int x :: .ref (ad i) :: rest) w ad := by
  obtain ⟨p, e, s, m, args, below, meth, c, hx0, hb, hr, hts, hown, hlocks, hml, het, hini, hbase, hK, hSt, hfl, rfl⟩ := O
  intro H lsA hR hL locs hS
  obtain ⟨h1, h2⟩ := z_in hx hj hn
  have k9 := kk H lsA hR hL locs hS
  rw [← h2] at k9
  exact va_dald hx0 hb hK (zP1 (hR.1 i _ hw).2) 0 4 rfl (zTys_get G (by decide)) h1 hdg k9
/-- an array of cells is read: of seats (5), of any (6) -/
theorem z_aald (O : zOK G l own cc nL ret ws R mc ms et PQ PX ini X) {t i n : Nat} {f : Nat → Option Nat} {x : Int32} (ht : t = 5 ∨ t = 6) (hdg : decode cc pc = .ok (.aaload, 1)) (hw : w i = some (.inl (t, (n, .inr (.inr (.inr (.inr f))))))) (j : Nat) (hx : x = nI j) (hj : j < n) (hn : n < 2 ^ 31)
    (kk : zV G X nL kc ks (pc + 1) lsv (va_rf (f j) :: rest) w ad) : zV G X nL kc ks pc lsv (.int x :: .ref (ad i) :: rest) w ad := by
  obtain ⟨p, e, s, m, args, below, meth, c, hx0, hb, hr, hts, hown, hlocks, hml, het, hini, hbase, hK, hSt, hfl, rfl⟩ := O
  intro H lsA hR hL locs hS
  obtain ⟨h1, h2⟩ := z_in hx hj hn
  have k9 := kk H lsA hR hL locs hS
  rw [← h2] at k9
  rcases ht with rfl | rfl
  · exact va_aldq (C := "ClaqueRow$Seat") hx0 hb hK (zP1 (hR.1 i _ hw).2) 0 5 rfl (zTys_get G (by decide)) h1 hdg k9
  · exact va_aldq (C := "java/lang/Object") hx0 hb hK (zP1 (hR.1 i _ hw).2) 0 6 rfl (zTys_get G (by decide)) h1 hdg k9
theorem z_alen (O : zOK G l own cc nL ret ws R mc ms et PQ PX ini X) {t i : Nat} {a : vp_A} (ht : t < 7) (hdg : decode cc pc = .ok (.arraylength, 1)) (hw : w i = some (.inl (t, a)))
    (kk : zV G X nL kc ks (pc + 1) lsv (.int (nI a.1) :: rest) w ad) : zV G X nL kc ks pc lsv (.ref (ad i) :: rest) w ad := by
  obtain ⟨p, e, s, m, args, below, meth, c, hx0, hb, hr, hts, hown, hlocks, hml, het, hini, hbase, hK, hSt, hfl, rfl⟩ := O
  intro H lsA hR hL locs hS
  exact va_alen hx0 hb hK (zP1 (hR.1 i _ hw).2) 0 t rfl (zTys_get G ht) rfl hdg (kk H lsA hR hL locs hS)
/-- arrays are written -/
theorem z_iast (O : zOK G l own cc nL ret ws R mc ms et PQ PX ini X) {i n : Nat} {f : Nat → Int32} {x v : Int32} {w' : zH} (hdg : decode cc pc = .ok (.iastore, 1)) (hw : w i = some (.inl (0, (n, .inl f)))) (j : Nat) (hx : x = nI j) (hj : j < n) (hn : n < 2 ^ 31) (hw' : ∀ b, w' b = if b = i then some (.inl (0, (n, .inl (upd f j v)))) else w b)
    (kk : zV G X nL kc ks (pc + 1) lsv rest w' ad) : zV G X nL kc ks pc lsv (.int v :: .int x :: .ref (ad i) :: rest) w ad := by
  obtain ⟨p, e, s, m, args, below, meth, c, hx0, hb, hr, hts, hown, hlocks, hml, het, hini, hbase, hK, hSt, hfl, rfl⟩ := O
  intro H lsA hR hL locs hS
  obtain ⟨hin, h2⟩ := z_in hx hj hn
  have hAt := hR.1 i _ hw
  refine W.iast hx0 hb hAt.2 ((hK.2 0 _ (zTys_get G (by decide))).1 n (fun j => .int (f j))) (fun q => by cases q) (by show ¬ (x < 0 ∨ (arrV _ _ _).slots.size ≤ _); rw [arrV_size]; exact hin) rfl rfl hdg fun H1 e z oq => ?_
  refine kk H1 lsA (hR.put hw ?_ oq hw') hL _ (hS.put z oq hAt.1)
  show H1[ad i]? = some (vp_cell _ _)
  rw [e, h2]
  show some ((vp_cell _ _).setSlot _ _) = _
  rw [vp_cell_i, vp_cell_i, arrV_store]
  congr 2
  funext q
  by_cases hq : q = j
  · subst hq
    simp [updV, upd]
  · simp [updV, upd, hq]
theorem z_cast (O : zOK G l own cc nL ret ws R mc ms et PQ PX ini X) {i n : Nat} {f : Nat → Int32} {x v : Int32} {w' : zH} (hdg : decode cc pc = .ok (.castore, 1)) (hw : w i = some (.inl (1, (n, .inl f)))) (j : Nat) (hx : x = nI j) (hj : j < n) (hn : n < 2 ^ 31) (hv : narrow .char (.int v) = .int v) (hw' : ∀ b, w' b = if b = i then some (.inl (1, (n, .inl (upd f j v)))) else w b)
    (kk : zV G X nL kc ks (pc + 1) lsv rest w' ad) : zV G X nL kc ks pc lsv (.int v :: .int x :: .ref (ad i) :: rest) w ad := by
  obtain ⟨p, e, s, m, args, below, meth, c, hx0, hb, hr, hts, hown, hlocks, hml, het, hini, hbase, hK, hSt, hfl, rfl⟩ := O
  intro H lsA hR hL locs hS
  obtain ⟨hin, h2⟩ := z_in hx hj hn
  have hAt := hR.1 i _ hw
  refine W.cast hx0 hb hAt.2 ((hK.2 1 _ (zTys_get G (by decide))).1 n (fun j => .int (f j))) (fun q => by cases q) (by show ¬ (x < 0 ∨ (arrV _ _ _).slots.size ≤ _); rw [arrV_size]; exact hin) rfl rfl hdg fun H1 e z oq => ?_
  refine kk H1 lsA (hR.put hw ?_ oq hw') hL _ (hS.put z oq hAt.1)
  show H1[ad i]? = some (vp_cell _ _)
  rw [e, h2, hv]
  show some ((vp_cell _ _).setSlot _ _) = _
  rw [vp_cell_i, vp_cell_i, arrV_store]
  congr 2
  funext q
  by_cases hq : q = j
  · subst hq
    simp [updV, upd]
  · simp [updV, upd, hq]
theorem z_zast (O : zOK G l own cc nL ret ws R mc ms et PQ PX ini X) {i n : Nat} {f : Nat → Int32} {x v : Int32} {w' : zH} (hdg : decode cc pc = .ok (.bastore, 1)) (hw : w i = some (.inl (2, (n, .inl f)))) (j : Nat) (hx : x = nI j) (hj : j < n) (hn : n < 2 ^ 31) (hv : narrow .boolean (.int v) = .int v) (hw' : ∀ b, w' b = if b = i then some (.inl (2, (n, .inl (upd f j v)))) else w b)
    (kk : zV G X nL kc ks (pc + 1) lsv rest w' ad) : zV G X nL kc ks pc lsv (.int v :: .int x :: .ref (ad i) :: rest) w ad := by
  obtain ⟨p, e, s, m, args, below, meth, c, hx0, hb, hr, hts, hown, hlocks, hml, het, hini, hbase, hK, hSt, hfl, rfl⟩ := O
  intro H lsA hR hL locs hS
  obtain ⟨hin, h2⟩ := z_in hx hj hn
  have hAt := hR.1 i _ hw
  refine W.zast hx0 hb hAt.2 ((hK.2 2 _ (zTys_get G (by decide))).1 n (fun j => .int (f j))) (fun q => by cases q) (by show ¬ (x < 0 ∨ (arrV _ _ _).slots.size ≤ _); rw [arrV_size]; exact hin) rfl rfl hdg fun H1 e z oq => ?_
  refine kk H1 lsA (hR.put hw ?_ oq hw') hL _ (hS.put z oq hAt.1)
  show H1[ad i]? = some (vp_cell _ _)
  rw [e, h2, hv]
  show some ((vp_cell _ _).setSlot _ _) = _
  rw [vp_cell_i, vp_cell_i, arrV_store]
  congr 2
  funext q
  by_cases hq : q = j
  · subst hq
    simp [updV, upd]
  · simp [updV, upd, hq]
/-- returns -/
theorem z_iret (O : zOK G l own cc nL (some .int) ws R mc ms et PQ PX ini X) {x : Int32} (hdg : decode cc pc = .ok (.ireturn, 1)) (h1 : kc ≤ mc) (h2 : ks ≤ ms) (hq : PQ (some (.int x)) w ad) : zV G X nL kc ks pc lsv [.int x] w ad := by
  obtain ⟨p, e, s, m, args, below, meth, c, hx0, hb, hr, hts, hown, hlocks, hml, het, hini, hbase, hK, hSt, hfl, rfl⟩ := O
  intro H lsA hR hL locs hS
  refine vx_ret (W.widen h1 h2 ?_)
  exact W.iret hx0 hb hr (fun t ht hW => ⟨⟨_, w, ad, rfl, hq, by rw [ht]; exact hR⟩, hS.F ht⟩) hS.2.2 hdg hlocks
theorem z_zret (O : zOK G l own cc nL ret ws R mc ms et PQ PX ini X) {ty : FieldType} (hret : ret = some ty) {x : Int32} (hn : narrow ty (.int x) = .int x) (hdg : decode cc pc = .ok (.ireturn, 1)) (h1 : kc ≤ mc) (h2 : ks ≤ ms) (hq : PQ (some (.int x)) w ad) : zV G X nL kc ks pc lsv [.int x] w ad := by
  subst hret
  obtain ⟨p, e, s, m, args, below, meth, c, hx0, hb, hr, hts, hown, hlocks, hml, het, hini, hbase, hK, hSt, hfl, rfl⟩ := O
  intro H lsA hR hL locs hS
  refine vx_ret (W.widen h1 h2 ?_)
  exact W.zret hx0 hb hr hn (fun t ht hW => ⟨⟨_, w, ad, rfl, hq, by rw [ht]; exact hR⟩, hS.F ht⟩) hS.2.2 hdg hlocks
theorem z_vret (O : zOK G l own cc nL none ws R mc ms et PQ PX ini X) (hdg : decode cc pc = .ok (.return_, 1)) (h1 : kc ≤ mc) (h2 : ks ≤ ms) (hq : PQ none w ad) : zV G X nL kc ks pc lsv [] w ad := by
  obtain ⟨p, e, s, m, args, below, meth, c, hx0, hb, hr, hts, hown, hlocks, hml, het, hini, hbase, hK, hSt, hfl, rfl⟩ := O
  intro H lsA hR hL locs hS
  refine vx_ret (W.widen h1 h2 ?_)
  exact W.vret hx0 hb hr (fun t ht hW => ⟨⟨_, w, ad, rfl, hq, by rw [ht]; exact hR⟩, hS.F ht⟩) hS.2.2 hdg hlocks
theorem z_aret (O : zOK G l own cc nL ret ws R mc ms et PQ PX ini X) {rt : FieldType} (hret : ret = some rt) (hrt : (∃ n, rt = .object n) ∨ ∃ t, rt = .array t) {r : Option Nat} (hdg : decode cc pc = .ok (.areturn, 1)) (h1 : kc ≤ mc) (h2 : ks ≤ ms) (hq : PQ (some (va_rf r)) w ad) : zV G X nL kc ks pc lsv [va_rf r] w ad := by
  subst hret
  obtain ⟨p, e, s, m, args, below, meth, c, hx0, hb, hr, hts, hown, hlocks, hml, het, hini, hbase, hK, hSt, hfl, rfl⟩ := O
  intro H lsA hR hL locs hS
  refine vx_ret (W.widen h1 h2 ?_)
  exact W.aret hx0 hb hr hrt (va_rf_or r) (fun t ht hW => ⟨⟨_, w, ad, rfl, hq, by rw [ht]; exact hR⟩, hS.F ht⟩) hS.2.2 hdg hlocks
theorem z_lret (O : zOK G l own cc nL (some .long) ws R mc ms et PQ PX ini X) {x : Int64} (hdg : decode cc pc = .ok (.lreturn, 1)) (h1 : kc ≤ mc) (h2 : ks ≤ ms) (hq : PQ (some (.long x)) w ad) : zV G X nL kc ks pc lsv [.long x] w ad := by
  obtain ⟨p, e, s, m, args, below, meth, c, hx0, hb, hr, hts, hown, hlocks, hml, het, hini, hbase, hK, hSt, hfl, rfl⟩ := O
  intro H lsA hR hL locs hS
  refine vx_ret (W.widen h1 h2 ?_)
  exact W.lret hx0 hb hr (fun t ht hW => ⟨⟨_, w, ad, rfl, hq, by rw [ht]; exact hR⟩, hS.F ht⟩) hS.2.2 hdg hlocks
theorem z_fret (O : zOK G l own cc nL (some .float) ws R mc ms et PQ PX ini X) {x : UInt32} (hdg : decode cc pc = .ok (.freturn, 1)) (h1 : kc ≤ mc) (h2 : ks ≤ ms) (hq : PQ (some (.float x)) w ad) : zV G X nL kc ks pc lsv [.float x] w ad := by
  obtain ⟨p, e, s, m, args, below, meth, c, hx0, hb, hr, hts, hown, hlocks, hml, het, hini, hbase, hK, hSt, hfl, rfl⟩ := O
  intro H lsA hR hL locs hS
  refine vx_ret (W.widen h1 h2 ?_)
  exact W.fret hx0 hb hr (fun t ht hW => ⟨⟨_, w, ad, rfl, hq, by rw [ht]; exact hR⟩, hS.F ht⟩) hS.2.2 hdg hlocks
theorem z_dret (O : zOK G l own cc nL (some .double) ws R mc ms et PQ PX ini X) {x : UInt64} (hdg : decode cc pc = .ok (.dreturn, 1)) (h1 : kc ≤ mc) (h2 : ks ≤ ms) (hq : PQ (some (.double x)) w ad) : zV G X nL kc ks pc lsv [.double x] w ad := by
  obtain ⟨p, e, s, m, args, below, meth, c, hx0, hb, hr, hts, hown, hlocks, hml, het, hini, hbase, hK, hSt, hfl, rfl⟩ := O
  intro H lsA hR hL locs hS
  refine vx_ret (W.widen h1 h2 ?_)
  exact W.dret hx0 hb hr (fun t ht hW => ⟨⟨_, w, ad, rfl, hq, by rw [ht]; exact hR⟩, hS.F ht⟩) hS.2.2 hdg hlocks
end ZROWS
end
section
/-! ===== calls, entries, throws over the abstract heap ===== -/
/-- a contract that never throws, as the kit's own -/
theorem zCt.met {G : zG} {l : Launch} {y : MethodName} {ws : List Cond} {rm : Room} {av : List Value} {w : zH} {ad : Nat → Nat} {PQ : Option Value → zH → (Nat → Nat) → Prop} {PX : String → zH → (Nat → Nat) → Prop} (h : zCt G l y ws rm av w ad PQ PX) (hp : ∀ E w ad, ¬ PX E w ad) : Met l y ws rm (va_Pc av (zWo G w ad)) (zQ G PQ) rm.cells rm.slots (zA G) := by
  intro p e ha hc hk s m args below hf happ hP hK
  obtain ⟨n, o, h1, h2, h3, h4⟩ := h p e ha hc hk s m args below hf happ hP hK
  refine ⟨n, o, h1, h2, h3, ?_⟩
  rcases h4 with h4 | ⟨q, -, E, ce, L, ⟨⟨w9, ad9, hx, -⟩, -⟩, -⟩
  · exact h4
  · exact absurd hx (hp _ _ _)
theorem zCt.post {G : zG} {l : Launch} {y : MethodName} {ws : List Cond} {rm : Room} {av : List Value} {w : zH} {ad : Nat → Nat} {PQ PQ' : Option Value → zH → (Nat → Nat) → Prop} {PX PX' : String → zH → (Nat → Nat) → Prop} (h : zCt G l y ws rm av w ad PQ PX) (hq : ∀ r w ad, PQ r w ad → PQ' r w ad) (hx : ∀ E w ad, PX E w ad → PX' E w ad) : zCt G l y ws rm av w ad PQ' PX' := by
  intro p e ha hc hk s m args below hf happ hP hK
  obtain ⟨n, o, h1, h2, h3, h4⟩ := h p e ha hc hk s m args below hf happ hP hK
  refine ⟨n, o, h1, h2, h3, ?_⟩
  rcases h4 with ⟨⟨⟨r, w9, ad9, a1, a2, a3⟩, a4⟩, a5⟩ | ⟨q, b1, E, ce, L, ⟨⟨w9, ad9, c1, c2⟩, c3⟩, b2⟩
  · exact Or.inl ⟨⟨⟨r, w9, ad9, a1, hq _ _ _ a2, a3⟩, a4⟩, a5⟩
  · exact Or.inr ⟨q, b1, E, ce, L, ⟨⟨w9, ad9, hx _ _ _ c1, c2⟩, c3⟩, b2⟩
abbrev zNoX : String → zH → (Nat → Nat) → Prop := fun _ _ _ => False
abbrev zws (y : MethodName) (cc : ByteArray) (nL : Nat) (ret : Option FieldType) : List Cond := Cond.code y cc nL ret :: zAll
abbrev zwsH (y : MethodName) (cc : ByteArray) (nL : Nat) (ret : Option FieldType) (hh : List (Nat × Nat × Nat × Nat)) : List Cond := Cond.codeWith y cc nL ret hh :: zAll
theorem zAllGood : GoodIn zAll zAll := fun w h => ⟨h, good_of_word (zGood w h)⟩
theorem zws_in {y : MethodName} {cc : ByteArray} {nL : Nat} {ret : Option FieldType} {own : String} {pre : List Cond} (hp : ∀ x ∈ pre, x ∈ zAll) (hc : Cond.code y cc nL ret ∈ zAll) {ws : List Cond} (hws : ∀ x ∈ zAll, x ∈ ws) : GoodIn ws (pre ++ zws y cc nL ret) := by
  intro x hx
  have h : x ∈ zAll := by
    rcases List.mem_append.mp hx with h | h
    · exact hp x h
    · rcases List.mem_cons.mp h with h | h
      · rw [h]; exact hc
      · exact h
  exact ⟨hws x h, good_of_word (zGood x h)⟩
theorem zwsH_in {y : MethodName} {cc : ByteArray} {nL : Nat} {ret : Option FieldType} {hh : List (Nat × Nat × Nat × Nat)} {pre : List Cond} (hp : ∀ x ∈ pre, x ∈ zAll) (hc : Cond.codeWith y cc nL ret hh ∈ zAll) {ws : List Cond} (hws : ∀ x ∈ zAll, x ∈ ws) : GoodIn ws (pre ++ zwsH y cc nL ret hh) := by
  intro x hx
  have h : x ∈ zAll := by
    rcases List.mem_append.mp hx with h | h
    · exact hp x h
    · rcases List.mem_cons.mp h with h | h
      · rw [h]; exact hc
      · exact h
  exact ⟨hws x h, good_of_word (zGood x h)⟩
/-- a method from its entry -/
theorem z_body {G : zG} {l : Launch} {y : MethodName} {cc : ByteArray} {nL : Nat} {ret : Option FieldType} {rm : Room} {av : List Value} {w : zH} {ad : Nat → Nat} {PQ : Option Value → zH → (Nat → Nat) → Prop} {PX : String → zH → (Nat → Nat) → Prop} (hl : l.stackTraces = false) (hy : plainName y.cls = true) (hlen : (lg_sl av).length ≤ nL)
    (body : ∀ X, zOK G l y.cls cc nL ret (zws y cc nL ret) rm rm.cells rm.slots [] PQ PX (y.name = "<init>") X → zV G X nL 0 0 0 (lv_args 0 av) [] w ad) : zCt G l y (zws y cc nL ret) rm av w ad PQ PX := by
  refine vx_ofW hy rfl ?_
  intro p e s m args below meth c s₁ B hml ht hv
  obtain ⟨rfl, hR, hbase, hK, hSt⟩ := hv
  have hL := lv_entry av (n := nL) hlen
  rw [lg_entry_eq]
  refine body _ ⟨p, e, s, m, _, below, meth, c, B.exec, B.bytes, B.returns, atoms_spec (ws := zws y cc nL ret) B.pre, findClass_of_methodNamed B.named, B.notSynchronized, hml, ?_, fun h => ?_, hbase, hK, hSt, hl, rfl⟩ s.heap _ hR hL [] va_S.rf
  · cases hc : c.exceptionTable.toList with
    | nil => rfl
    | cons a t => exact (ht a (by rw [hc]; exact List.mem_cons_self)).elim
  · rw [(name_of_methodNamed B.named B.method).1]; exact h
theorem z_bodyH {G : zG} {l : Launch} {y : MethodName} {cc : ByteArray} {nL : Nat} {ret : Option FieldType} {hh : List (Nat × Nat × Nat × Nat)} {rm : Room} {av : List Value} {w : zH} {ad : Nat → Nat} {PQ : Option Value → zH → (Nat → Nat) → Prop} {PX : String → zH → (Nat → Nat) → Prop} (hl : l.stackTraces = false) (hy : plainName y.cls = true) (hlen : (lg_sl av).length ≤ nL)
    (body : ∀ X, zOK G l y.cls cc nL ret (zwsH y cc nL ret hh) rm rm.cells rm.slots (tableOf hh) PQ PX (y.name = "<init>") X → zV G X nL 0 0 0 (lv_args 0 av) [] w ad) : zCt G l y (zwsH y cc nL ret hh) rm av w ad PQ PX := by
  refine vx_ofWH hy rfl ?_
  intro p e s m args below meth c s₁ B hml hv
  obtain ⟨rfl, hR, hbase, hK, hSt⟩ := hv
  have hL := lv_entry av (n := nL) hlen
  rw [lg_entry_eq]
  have hts := atoms_spec (ws := zwsH y cc nL ret hh) B.pre
  refine body _ ⟨p, e, s, m, _, below, meth, c, B.exec, B.bytes, B.returns, hts, findClass_of_methodNamed B.named, B.notSynchronized, hml, vx_table (x := y) B (hts _ List.mem_cons_self), fun h => ?_, hbase, hK, hSt, hl, rfl⟩ s.heap _ hR hL [] va_S.rf
  rw [(name_of_methodNamed B.named B.method).1]; exact h
section ZCALLS
variable {p : Program} {l : Launch} {e : Env} {R : Room} {s : State} {m : MethodId} {args : Array Value} {below : List Frame} {meth : Method} {c : Code} {H : Heap} {locs : List Loc} {kc ks : Nat} {Q : State → Prop} {G : zG}
theorem zRunX {mc' ms' pc : Nat} {ls : Array Slot} {rest st0 : List Value} {av : Array Value} {post : Option Value → zH → (Nat → Nat) → Prop} {px : String → zH → (Nat → Nat) → Prop}
    (hr : vx_Run p l e R s m args below meth c H locs kc ks mc' ms' (F0 m pc ls st0) rest (zQ G post av) (zX G px) (zA G)) (hS : va_S (zA G) s.heap H locs)
    (kk : ∀ (r : Option Value) (w' : zH) (ad' : Nat → Nat), post r w' ad' → ∀ (H1 : Heap) (locs1 : List Loc), zRep G w' ad' H1 → va_S (zA G) s.heap H1 locs1 → W p l e R s m args below meth c H1 locs1 (kc + mc') (ks + ms') Q (F0 m (pc + 3) ls (r.toList ++ rest)))
    (kx : ∀ (E : String) (w' : zH) (ad' : Nat → Nat), px E w' ad' → ∀ (H1 : Heap) (locs1 : List Loc) (q : Addr) (ce : Cell), zRep G w' ad' H1 → va_S (zA G) s.heap H1 locs1 → H1[q]? = some ce → ce.vm = .none → s.vm.findClass E = some ce.cls → vx_W p l e R s m args below meth c H1 locs1 (kc + mc') (ks + ms') Q (F0 m pc ls rest) q) :
    W p l e R s m args below meth c H locs kc ks Q (F0 m pc ls st0) := by
  intro T hT X
  rcases hr T hT X with ⟨v, st₀, t, T', L, h0, X', hL, e1, e2, ⟨⟨r, w', ad', hv, hp, hRp⟩, hF⟩, st⟩ | ⟨q, st₀, t, T', L, E, ce, h0, X', hL, e1, e2, ⟨⟨w', ad', hp, hRp⟩, hF⟩, hce, hcv, hcl, st⟩
  · cases hv
    obtain ⟨k1, k2, k3⟩ := vx_keep (free := zA G) h0 e1 hS (fun _ _ h => h) (fun _ h => h) hL hF
    obtain ⟨t2, a1, b1⟩ := kk _ w' ad' hp T'.heap (locs ++ L) (by rw [e1]; exact hRp) k3 T' rfl X'
    exact ⟨t2, st t2 a1, b1⟩
  · obtain ⟨k1, k2, k3⟩ := vx_keep (free := zA G) h0 e1 hS (fun _ _ h => h) (fun _ h => h) hL hF
    obtain ⟨t2, a1, b1⟩ := kx E w' ad' hp T'.heap (locs ++ L) q ce (by rw [e1]; exact hRp) k3 (by rw [e1]; exact hce) hcv hcl T' rfl X'
    exact ⟨t2, st.trans a1, b1⟩
theorem zRunM {mc' ms' pc : Nat} {ls : Array Slot} {rest st0 : List Value} {av : Array Value} {post : Option Value → zH → (Nat → Nat) → Prop}
    (hr : va_Run p l e R s m args below meth c H locs kc ks mc' ms' (F0 m pc ls st0) rest (zQ G post av) (zA G)) (hS : va_S (zA G) s.heap H locs)
    (kk : ∀ (r : Option Value) (w' : zH) (ad' : Nat → Nat), post r w' ad' → ∀ (H1 : Heap) (locs1 : List Loc), zRep G w' ad' H1 → va_S (zA G) s.heap H1 locs1 → W p l e R s m args below meth c H1 locs1 (kc + mc') (ks + ms') Q (F0 m (pc + 3) ls (r.toList ++ rest))) :
    W p l e R s m args below meth c H locs kc ks Q (F0 m pc ls st0) := by
  intro T hT X
  obtain ⟨v, st₀, t, T', L, h0, X', hL, e1, e2, ⟨⟨r, w', ad', hv, hp, hRp⟩, hF⟩, st⟩ := hr T hT X
  cases hv
  obtain ⟨k1, k2, k3⟩ := vx_keep (free := zA G) h0 e1 hS (fun _ _ h => h) (fun _ h => h) hL hF
  obtain ⟨t2, a1, b1⟩ := kk _ w' ad' hp T'.heap (locs ++ L) (by rw [e1]; exact hRp) k3 T' rfl X'
  exact ⟨t2, st t2 a1, b1⟩
theorem zWo_at {w : zH} {ad : Nat → Nat} (hR : zRep G w ad H) (hbase : G.2.2.1 ≤ s.heap.size) (hK : va_K G.1 vwCl (zTys G) s) (hSt : zSt G s s.heap) (hS : va_S (zA G) s.heap H locs) {U : State} (hU : U.heap = H) (hW : s.WarmedH U.vm) : zWo G w ad U := by
  refine ⟨by rw [hU]; exact hR, by rw [hU]; exact Nat.le_trans hbase hS.1, va_K.moved hW.alike hK, ?_⟩
  rw [hU]
  exact (zSt.kept hSt (fun a h1 h2 => hS.2.1 a h1 h2)).moved hW
end ZCALLS
section ZCALLROWS
variable {G : zG} {l : Launch} {own : String} {cc : ByteArray} {nL : Nat} {ret : Option FieldType} {ws : List Cond} {R : Room} {mc ms : Nat} {et : List ExceptionTableEntry} {PQ : Option Value → zH → (Nat → Nat) → Prop} {PX : String → zH → (Nat → Nat) → Prop} {ini : Prop} {X : zXT} {kc ks pc : Nat} {lsv : List (Nat × Value)} {rest st : List Value} {w : zH} {ad : Nat → Nat}
variable {y : MethodName} {bytes : ByteArray} {maxL : Nat} {ret' : Option FieldType} {rm : Room} {post : Option Value → zH → (Nat → Nat) → Prop} {px : String → zH → (Nat → Nat) → Prop} {As : List Value} {i idx : Nat}
theorem zpre4 {a b c d : Cond} (ha : a ∈ zAll) (hb : b ∈ zAll) (hc : c ∈ zAll) (hd : d ∈ zAll) : ∀ x ∈ ([a, b, c, d] : List Cond), x ∈ zAll := by
  intro x hx
  simp only [List.mem_cons, List.mem_nil_iff, or_false] at hx
  rcases hx with h | h | h | h <;> rw [h] <;> assumption
theorem zpre3 {a b c : Cond} (ha : a ∈ zAll) (hb : b ∈ zAll) (hc : c ∈ zAll) : ∀ x ∈ ([a, b, c] : List Cond), x ∈ zAll := by
  intro x hx
  simp only [List.mem_cons, List.mem_nil_iff, or_false] at hx
  rcases hx with h | h | h <;> rw [h] <;> assumption
/-- a method of an object is called; what it throws goes on to the caller -/
theorem z_callV (O : zOK G l own cc nL ret ws R mc ms [] PQ PX ini X) (hC : zCt G l y (zws y bytes maxL ret') rm (.ref (ad i) :: As) w ad post px) {C : String} {T : u_T} {N ci : Nat} {fs : List Value} (hws : ∀ x ∈ zAll, x ∈ ws) (hm1 : Cond.methodLink own idx y ∈ zAll) (hm2 : Cond.instanceMethod y ∈ zAll) (hm3 : Cond.selects C y y ∈ zAll) (hm4 : Cond.initialized C ∈ zAll) (hm5 : Cond.code y bytes maxL ret' ∈ zAll)
    (hd : y.cls = C ∧ y.cls ≠ "java/lang/invoke/MethodHandle" ∧ y.cls ≠ "java/lang/invoke/VarHandle" ∧ (parseMethodDescriptor y.desc).map (fun d => d.parameters.length) = some As.length) (hc : vwCl[ci]? = some (C, T, N)) (hw : w i = some (.inr (ci, fs))) (hR : rm.frames + 1 ≤ R.frames ∧ 8 + (maxL + 11) + rm.locals ≤ R.locals) (hf : kc + rm.cells ≤ R.cells ∧ ks + rm.slots ≤ R.slots)
    (hdg : decode cc pc = .ok (.invokevirtual idx, 3)) (hst : st = As.reverse ++ .ref (ad i) :: rest) (hcat : (rest.map fun v => v.category).sum ≤ 8) (hpx : ∀ E w' ad', px E w' ad' → PX E w' ad' ∧ kc + rm.cells ≤ mc ∧ ks + rm.slots ≤ ms)
    (kk : ∀ (r : Option Value) (w' : zH) (ad' : Nat → Nat), post r w' ad' → zV G X nL (kc + rm.cells) (ks + rm.slots) (pc + 3) lsv (r.toList ++ rest) w' ad') : zV G X nL kc ks pc lsv st w ad := by
  obtain ⟨p, e, s, m, args, below, meth, c, hx0, hb, hr, hts, hown, hlocks, hml, het, hini, hbase, hK, hSt, hfl, rfl⟩ := O
  intro H lsA hRp hL locs hS
  subst hst
  refine zRunX (vx_runV (As := As) (rest := rest) ⟨hx0, hb, hml, hown, hts⟩ hC (cwV As.length hts (zws_in (own := own) (zpre4 hm1 hm2 hm3 hm4) hm5 hws) rfl rfl rfl hd hR) ⟨zBlind, ?_, fun U hU hW => ⟨rfl, zWo_at hRp hbase hK hSt hS hU hW⟩⟩ rfl rfl hL.1 rfl (lv_room hcat) hdg hf) hS ?_ ?_
  · obtain ⟨q', h1, cell, g1, g2, g3, -⟩ := (hRp.1 i _ hw).2
    exact ⟨cell, g1, by rw [g3]; rfl, by rw [g2]; exact (hK.1 ci _ hc).2.1⟩
  · exact fun r w' ad' hp H1 locs1 hR1 hS1 => kk r w' ad' hp H1 lsA hR1 hL locs1 hS1
  · intro E w' ad' hp H1 locs1 q ce hR1 hS1 hce hcv hcl
    obtain ⟨a1, a2, a3⟩ := hpx E w' ad' hp
    exact vx_out (by rw [het]; exact fun x hx => by cases hx) hlocks hce hcv hcl (fun t ht _ => ⟨⟨w', ad', a1, by rw [ht]; exact hR1⟩, by rw [show va_F (zA G) s t ↔ va_F (zA G) s t from Iff.rfl]; exact hS1.F ht⟩) hS1.2.2 a2 a3
/-- a static method is called -/
theorem z_callS (O : zOK G l own cc nL ret ws R mc ms [] PQ PX ini X) (hC : zCt G l y (zws y bytes maxL ret') rm As w ad post px) (hws : ∀ x ∈ zAll, x ∈ ws) (hm1 : Cond.methodLink own idx y ∈ zAll) (hm2 : Cond.static y ∈ zAll) (hm4 : Cond.initialized y.cls ∈ zAll) (hm5 : Cond.code y bytes maxL ret' ∈ zAll)
    (hd : y.cls ≠ "java/lang/invoke/MethodHandle" ∧ y.cls ≠ "java/lang/invoke/VarHandle" ∧ (parseMethodDescriptor y.desc).map (fun d => d.parameters.length) = some As.length) (hR : rm.frames + 1 ≤ R.frames ∧ 8 + (maxL + 11) + rm.locals ≤ R.locals) (hf : kc + rm.cells ≤ R.cells ∧ ks + rm.slots ≤ R.slots)
    (hdg : decode cc pc = .ok (.invokestatic idx, 3)) (hst : st = As.reverse ++ rest) (hcat : (rest.map fun v => v.category).sum ≤ 8) (hpx : ∀ E w' ad', px E w' ad' → PX E w' ad' ∧ kc + rm.cells ≤ mc ∧ ks + rm.slots ≤ ms)
    (kk : ∀ (r : Option Value) (w' : zH) (ad' : Nat → Nat), post r w' ad' → zV G X nL (kc + rm.cells) (ks + rm.slots) (pc + 3) lsv (r.toList ++ rest) w' ad') : zV G X nL kc ks pc lsv st w ad := by
  obtain ⟨p, e, s, m, args, below, meth, c, hx0, hb, hr, hts, hown, hlocks, hml, het, hini, hbase, hK, hSt, hfl, rfl⟩ := O
  intro H lsA hRp hL locs hS
  subst hst
  refine zRunX (vx_runS (As := As) (rest := rest) ⟨hx0, hb, hml, hown, hts⟩ hC (va_cwS As.length hts (zws_in (own := own) (zpre3 hm1 hm2 hm4) hm5 hws) rfl rfl rfl hd hR) ⟨zBlind, fun U hU hW => ⟨rfl, zWo_at hRp hbase hK hSt hS hU hW⟩⟩ rfl rfl hL.1 rfl (lv_room hcat) hdg hf) hS ?_ ?_
  · exact fun r w' ad' hp H1 locs1 hR1 hS1 => kk r w' ad' hp H1 lsA hR1 hL locs1 hS1
  · intro E w' ad' hp H1 locs1 q ce hR1 hS1 hce hcv hcl
    obtain ⟨a1, a2, a3⟩ := hpx E w' ad' hp
    exact vx_out (by rw [het]; exact fun x hx => by cases hx) hlocks hce hcv hcl (fun t ht _ => ⟨⟨w', ad', a1, by rw [ht]; exact hR1⟩, hS1.F ht⟩) hS1.2.2 a2 a3
/-- a constructor is called, which throws nothing -/
theorem z_callI (O : zOK G l own cc nL ret ws R mc ms et PQ PX ini X) (hC : zCt G l y (zws y bytes maxL none) rm (.ref (ad i) :: As) w ad post zNoX) (hws : ∀ x ∈ zAll, x ∈ ws) (hm1 : Cond.methodLink own idx y ∈ zAll) (hm2 : Cond.instanceMethod y ∈ zAll) (hm4 : Cond.initialized y.cls ∈ zAll) (hm5 : Cond.code y bytes maxL none ∈ zAll) (hy1 : y.name = "<init>")
    (hd : y.cls ≠ "java/lang/invoke/MethodHandle" ∧ y.cls ≠ "java/lang/invoke/VarHandle" ∧ (parseMethodDescriptor y.desc).map (fun d => d.parameters.length) = some As.length) (hR : rm.frames + 1 ≤ R.frames ∧ 8 + (maxL + 11) + rm.locals ≤ R.locals) (hf : kc + rm.cells ≤ R.cells ∧ ks + rm.slots ≤ R.slots)
    (hdg : decode cc pc = .ok (.invokespecial idx, 3)) (hst : st = As.reverse ++ .ref (ad i) :: rest) (hcat : (rest.map fun v => v.category).sum ≤ 8)
    (kk : ∀ (r : Option Value) (w' : zH) (ad' : Nat → Nat), post r w' ad' → zV G X nL (kc + rm.cells) (ks + rm.slots) (pc + 3) lsv (r.toList ++ rest) w' ad') : zV G X nL kc ks pc lsv st w ad := by
  obtain ⟨p, e, s, m, args, below, meth, c, hx0, hb, hr, hts, hown, hlocks, hml, het, hini, hbase, hK, hSt, hfl, rfl⟩ := O
  intro H lsA hRp hL locs hS
  subst hst
  refine zRunM (va_runI (As := As) (rest := rest) ⟨hx0, hb, hml, hown, hts⟩ (hC.met (fun _ _ _ h => h)) (cwI As.length hts (zws_in (own := own) (pre := []) (fun _ h => nomatch h) hm5 hws) rfl rfl rfl (hts _ (hws _ hm4)) (hts _ (hws _ hm1)) (hts _ (hws _ hm2)) hy1 hd hR) ⟨zBlind, fun U hU hW => ⟨rfl, zWo_at hRp hbase hK hSt hS hU hW⟩⟩ rfl rfl hL.1 rfl (lv_room hcat) hdg hf) hS ?_
  exact fun r w' ad' hp H1 locs1 hR1 hS1 => kk r w' ad' hp H1 lsA hR1 hL locs1 hS1
/-- Object's constructor -/
theorem z_objInit (O : zOK G l own cc nL ret ws R mc ms et PQ PX ini X) {q : Nat} (hws : ∀ x ∈ zAll, x ∈ ws) (hm1 : Cond.methodLink own idx Lib.objectInit ∈ zAll) (hm2 : Cond.instanceMethod Lib.objectInit ∈ zAll) (hm3 : Cond.code Lib.objectInit ⟨#[0xb1]⟩ 1 none ∈ zAll) (hdg : decode cc pc = .ok (.invokespecial idx, 3)) (hf : 1 ≤ R.frames) (hlo : (rest.map fun v => v.category).sum + 12 ≤ R.locals)
    (kk : zV G X nL kc ks (pc + 3) lsv rest w ad) : zV G X nL kc ks pc lsv (.ref q :: rest) w ad := by
  obtain ⟨p, e, s, m, args, below, meth, c, hx0, hb, hr, hts, hown, hlocks, hml, het, hini, hbase, hK, hSt, hfl, rfl⟩ := O
  intro H lsA hRp hL locs hS
  refine W.objInit hx0 hb hown (hts _ (hws _ hm1)) (hts _ (hws _ hm2)) (hts _ (hws _ hm3)) rfl (hL.1.trans hml.symm) rfl hdg hf ?_ (kk H lsA hRp hL locs hS)
  show 2 * 0 + _ + 12 ≤ _
  omega
end ZCALLROWS
end
section
/-! ===== the world of this claim: one table of numbers for the class (Z), one for the reference (Y) ===== -/
/-- numbers: which table, which place. 0 who, 1 threshold, 2 handIn, 3 noise, 4 joined (how often), 5 before, 6 joins, 7 hissed, 8 hissedBefore (a seat each); 9 handKind, 11 strength, 12 rank, 13 price, 14 money (a hand each); 15 night, 16 perCall, 17 owed, 18 callsOf (a singer each); 10 cueKind, 19 cueSinger, 20 cueTick, 21 cueForce, 22 cueTicks (a cue each); at place 0: 23 rows, 24 wide, 25 hands, 26 singers, 27 cues, 28 level, 29 ticks, 30 loud, 31 calls, 32 hisses, 33 suspicions, 34 purse, 35 chiefs -/
abbrev zM : Type := Nat → Nat → Int32
def zu (Z : zM) (F k : Nat) (v : Int32) : zM := fun f j => if f = F ∧ j = k then v else Z f j
theorem zu_s (Z : zM) (F k : Nat) (v : Int32) : zu Z F k v F k = v := by simp [zu]
theorem zu_f {Z : zM} {F f k j : Nat} {v : Int32} (h : f ≠ F) : zu Z F k v f j = Z f j := by simp [zu, h]
theorem zu_k {Z : zM} {F f k j : Nat} {v : Int32} (h : j ≠ k) : zu Z F k v f j = Z f j := by simp [zu, h]
def zh (x : Int32) : Option Nat := if x < 0 then none else some x.toNatClampNeg
def zN (Z : zM) (i : Nat) : Nat := (Z (25 + i) 0).toNatClampNeg
def eX (Z : zM) (ad : Nat → Nat) : zE := .inr (10, [.ref (ad 1), .ref (ad 3), .ref (ad 6), .ref (ad 4), .int (Z 34 0), .int (Z 35 0)])
def eHouse (Z : zM) (ad : Nat → Nat) : zE := .inr (6, [.ref (ad 2), .int (Z 23 0), .int (Z 24 0)])
def eArr (ad : Nat → Nat) : zE := .inl (5, (80, .inr (.inr (.inr (.inr (fun k => some (ad (100 + k))))))))
def eTr (ad : Nat → Nat) : zE := .inr (9, [.ref (ad 5)])
def eEv (Z : zM) (ad : Nat → Nat) : zE := .inr (4, [.ref (ad 7), .int (Z 28 0), .int (Z 29 0), .int (Z 30 0), .int (Z 31 0), .int (Z 32 0), .int (Z 33 0)])
def eList (Z : zM) (mcn : Nat → Int32) (cp : Nat → Nat) (e0 : Nat) (ad : Nat → Nat) (i : Nat) : zE := .inr (2, [.int (mcn i), .ref (if cp i = 0 then e0 else ad (8 + i)), .int (Z (25 + i) 0)])
def eLArr (Z : zM) (cp : Nat → Nat) (ad : Nat → Nat) (i : Nat) : zE := .inl (6, (cp i, .inr (.inr (.inr (.inr (fun k => if k < zN Z i then some (ad (200 + 20 * i + k)) else none))))))
def sSeat (Z : zM) (ad : Nat → Nat) (k : Nat) : List Value := [.int (Z 0 k), .int (Z 1 k), va_rf ((zh (Z 2 k)).map (fun j => ad (200 + j))), .int (Z 3 k), .int (Z 5 k), .int (Z 6 k), .int (Z 4 k), .int (Z 7 k), .int (Z 8 k)]
def sHand (Z : zM) (sb : Nat → Option Nat) (ad : Nat → Nat) (j : Nat) : List Value := [.int (Z 9 j), .int (Z 11 j), .int (Z 12 j), .int (Z 13 j), .int (Z 14 j), va_rf ((sb j).map (fun k => ad (100 + k)))]
def sSinger (Z : zM) (j : Nat) : List Value := [.int (Z 15 j), .int (Z 16 j), .int (Z 18 j), .int (Z 17 j)]
def sCue (Z : zM) (ad : Nat → Nat) (j : Nat) : List Value := [.ref (ad (220 + (Z 19 j).toNatClampNeg)), .int (Z 10 j), .int (Z 20 j), .int (Z 21 j), .int (Z 22 j)]
def zC (Z : zM) (sb : Nat → Option Nat) (mcn : Nat → Int32) (cp : Nat → Nat) (e0 : Nat) (ad : Nat → Nat) (i : Nat) : Option zE :=
  if i < 100 then
    (if i = 0 then some (eX Z ad) else if i = 1 then some (eHouse Z ad) else if i = 2 then some (eArr ad) else if i = 3 then some (eTr ad) else if i = 4 then some (eEv Z ad)
      else if i < 8 then some (eList Z mcn cp e0 ad (i - 5)) else if i < 11 then (if cp (i - 8) = 0 then none else some (eLArr Z cp ad (i - 8))) else none)
  else if i < 180 then some (.inr (7, sSeat Z ad (i - 100)))
  else if i < 200 then none
  else if i < 220 then (if i - 200 < zN Z 0 then some (.inr (5, sHand Z sb ad (i - 200))) else none)
  else if i < 240 then (if i - 220 < zN Z 1 then some (.inr (8, sSinger Z (i - 220))) else none)
  else if i < 260 then (if i - 240 < zN Z 2 then some (.inr (3, sCue Z ad (i - 240))) else none)
  else none
def sModel (Y : zM) (th : Int32) (ad : Nat → Nat) : List Value := [.ref (ad 301), .ref (ad 302), .ref (ad 303), .ref (ad 304), .ref (ad 305), .ref (ad 306), .ref (ad 307), .ref (ad 308), .ref (ad 309), .ref (ad 310), .ref (ad 311), .ref (ad 312), .ref (ad 313), .ref (ad 314), .ref (ad 315), .ref (ad 316), .ref (ad 317), .ref (ad 318), .ref (ad 319), .ref (ad 320), .ref (ad 321), .ref (ad 322), .ref (ad 323), .int (Y 23 0), .int (Y 24 0), .int (Y 25 0), .int (Y 26 0), .int (Y 27 0), .int (Y 28 0), .int (Y 29 0), .int (Y 30 0), .int (Y 31 0), .int (Y 32 0), .int (Y 33 0), .int (Y 34 0), .int (Y 35 0), .int th]
def mty (i : Nat) : Nat := if i = 0 ∨ i = 9 ∨ i = 10 then 1 else if i = 6 ∨ i = 7 ∨ i = 8 then 2 else 0
def mln (i : Nat) : Nat := if i < 9 then 80 else if 15 ≤ i ∧ i < 19 then 6 else 12
def zD (Y : zM) (th : Int32) (o : Nat → Int64) (od : Nat → UInt64) (ad : Nat → Nat) (i : Nat) : Option zE :=
  if i = 300 then some (.inr (11, sModel Y th ad))
  else if i < 324 then some (.inl (mty (i - 301), (mln (i - 301), .inl (Y (i - 301)))))
  else if i = 340 then some (.inl (3, (1, .inr (.inl o))))
  else if i = 341 then some (.inl (4, (1, .inr (.inr (.inr (.inl od))))))
  else none
def zent (Z : zM) (sb : Nat → Option Nat) (mcn : Nat → Int32) (cp : Nat → Nat) (e0 : Nat) (Y : zM) (th : Int32) (o : Nat → Int64) (od : Nat → UInt64) (ad : Nat → Nat) : zH := fun i => if i < 300 then zC Z sb mcn cp e0 ad i else zD Y th o od ad i
section ZENT
variable {Z : zM} {sb : Nat → Option Nat} {mcn : Nat → Int32} {cp : Nat → Nat} {e0 : Nat} {Y : zM} {th : Int32} {o : Nat → Int64} {od : Nat → UInt64} {ad : Nat → Nat}
theorem zg_x : zent Z sb mcn cp e0 Y th o od ad 0 = some (eX Z ad) := rfl
theorem zg_house : zent Z sb mcn cp e0 Y th o od ad 1 = some (eHouse Z ad) := rfl
theorem zg_arr : zent Z sb mcn cp e0 Y th o od ad 2 = some (eArr ad) := rfl
theorem zg_tr : zent Z sb mcn cp e0 Y th o od ad 3 = some (eTr ad) := rfl
theorem zg_ev : zent Z sb mcn cp e0 Y th o od ad 4 = some (eEv Z ad) := rfl
theorem zg_list {i : Nat} (h : i < 3) : zent Z sb mcn cp e0 Y th o od ad (5 + i) = some (eList Z mcn cp e0 ad i) := by
  rcases (show i = 0 ∨ i = 1 ∨ i = 2 by omega) with rfl | rfl | rfl <;> rfl
theorem zg_larr {i : Nat} (h : i < 3) (hc : cp i ≠ 0) : zent Z sb mcn cp e0 Y th o od ad (8 + i) = some (eLArr Z cp ad i) := by
  rcases (show i = 0 ∨ i = 1 ∨ i = 2 by omega) with rfl | rfl | rfl <;> simp [zent, zC, hc]
theorem zg_seat {k : Nat} (h : k < 80) : zent Z sb mcn cp e0 Y th o od ad (100 + k) = some (.inr (7, sSeat Z ad k)) := by
  simp only [zent, zC]
  rw [if_pos (by omega), if_neg (by omega), if_pos (by omega), show 100 + k - 100 = k by omega]
theorem zg_hand {k : Nat} (h : k < zN Z 0) (h2 : k < 20) : zent Z sb mcn cp e0 Y th o od ad (200 + k) = some (.inr (5, sHand Z sb ad k)) := by
  simp only [zent, zC]
  rw [if_pos (by omega), if_neg (by omega), if_neg (by omega), if_neg (by omega), if_pos (by omega), show 200 + k - 200 = k by omega, if_pos h]
theorem zg_singer {k : Nat} (h : k < zN Z 1) (h2 : k < 20) : zent Z sb mcn cp e0 Y th o od ad (220 + k) = some (.inr (8, sSinger Z k)) := by
  simp only [zent, zC]
  rw [if_pos (by omega), if_neg (by omega), if_neg (by omega), if_neg (by omega), if_neg (by omega), if_pos (by omega), show 220 + k - 220 = k by omega, if_pos h]
theorem zg_cue {k : Nat} (h : k < zN Z 2) (h2 : k < 20) : zent Z sb mcn cp e0 Y th o od ad (240 + k) = some (.inr (3, sCue Z ad k)) := by
  simp only [zent, zC]
  rw [if_pos (by omega), if_neg (by omega), if_neg (by omega), if_neg (by omega), if_neg (by omega), if_neg (by omega), if_pos (by omega), show 240 + k - 240 = k by omega, if_pos h]
theorem zg_model : zent Z sb mcn cp e0 Y th o od ad 300 = some (.inr (11, sModel Y th ad)) := rfl
theorem zg_marr {i : Nat} (h : i < 23) : zent Z sb mcn cp e0 Y th o od ad (301 + i) = some (.inl (mty i, (mln i, .inl (Y i)))) := by
  simp only [zent, zD]
  rw [if_neg (by omega), if_neg (by omega), if_pos (by omega), show 301 + i - 301 = i by omega]
theorem zg_out : zent Z sb mcn cp e0 Y th o od ad 340 = some (.inl (3, (1, .inr (.inl o)))) := rfl
theorem zg_outD : zent Z sb mcn cp e0 Y th o od ad 341 = some (.inl (4, (1, .inr (.inr (.inr (.inl od)))))) := rfl
/-- the world behind a change of numbers that only one cell shows -/
theorem zp_gen {Z' : zM} {sb' : Nat → Option Nat} {i : Nat} {e : zE} (hi : i < 300) (he : zC Z' sb' mcn cp e0 ad i = some e)
    (hX : i ≠ 0 → eX Z' ad = eX Z ad) (hH : i ≠ 1 → eHouse Z' ad = eHouse Z ad) (hE : i ≠ 4 → eEv Z' ad = eEv Z ad) (hN : ∀ a, a < 3 → Z' (25 + a) 0 = Z (25 + a) 0)
    (hS : ∀ b, b < 80 → i ≠ 100 + b → sSeat Z' ad b = sSeat Z ad b) (hHd : ∀ b, b < 20 → i ≠ 200 + b → sHand Z' sb' ad b = sHand Z sb ad b) (hSg : ∀ b, b < 20 → i ≠ 220 + b → sSinger Z' b = sSinger Z b) (hCu : ∀ b, b < 20 → i ≠ 240 + b → sCue Z' ad b = sCue Z ad b) :
    ∀ j, zent Z' sb' mcn cp e0 Y th o od ad j = if j = i then some e else zent Z sb mcn cp e0 Y th o od ad j := by
  intro j
  by_cases hj : j = i
  · subst hj
    rw [if_pos rfl]
    simp only [zent, if_pos hi]
    exact he
  · rw [if_neg hj]
    have hNn : ∀ a, a < 3 → zN Z' a = zN Z a := fun a ha => by simp only [zN, hN a ha]
    by_cases h : j < 300
    · simp only [zent, if_pos h, zC]
      by_cases h1 : j < 100
      · rw [if_pos h1, if_pos h1]
        by_cases j0 : j = 0
        · rw [if_pos j0, if_pos j0, hX (by omega)]
        rw [if_neg j0, if_neg j0]
        by_cases j1 : j = 1
        · rw [if_pos j1, if_pos j1, hH (by omega)]
        rw [if_neg j1, if_neg j1]
        by_cases j2 : j = 2
        · rw [if_pos j2, if_pos j2]
        rw [if_neg j2, if_neg j2]
        by_cases j3 : j = 3
        · rw [if_pos j3, if_pos j3]
        rw [if_neg j3, if_neg j3]
        by_cases j4 : j = 4
        · rw [if_pos j4, if_pos j4, hE (by omega)]
        rw [if_neg j4, if_neg j4]
        by_cases j8 : j < 8
        · rw [if_pos j8, if_pos j8]
          simp only [eList, hN (j - 5) (by omega)]
        rw [if_neg j8, if_neg j8]
        by_cases j11 : j < 11
        · rw [if_pos j11, if_pos j11]
          unfold eLArr
          rw [hNn (j - 8) (by omega)]
        rw [if_neg j11, if_neg j11]
      · rw [if_neg h1, if_neg h1]
        by_cases h2 : j < 180
        · rw [if_pos h2, if_pos h2, hS (j - 100) (by omega) (by omega)]
        rw [if_neg h2, if_neg h2]
        by_cases h3 : j < 200
        · rw [if_pos h3, if_pos h3]
        rw [if_neg h3, if_neg h3]
        by_cases h4 : j < 220
        · rw [if_pos h4, if_pos h4, hNn 0 (by omega), hHd (j - 200) (by omega) (by omega)]
        rw [if_neg h4, if_neg h4]
        by_cases h5 : j < 240
        · rw [if_pos h5, if_pos h5, hNn 1 (by omega), hSg (j - 220) (by omega) (by omega)]
        rw [if_neg h5, if_neg h5]
        by_cases h6 : j < 260
        · rw [if_pos h6, if_pos h6, hNn 2 (by omega), hCu (j - 240) (by omega) (by omega)]
        rw [if_neg h6, if_neg h6]
    · simp only [zent, if_neg h]
theorem zC_seat {k : Nat} (h : k < 80) : zC Z sb mcn cp e0 ad (100 + k) = some (.inr (7, sSeat Z ad k)) := by
  simp only [zC]
  rw [if_neg (by omega), if_pos (by omega), show 100 + k - 100 = k by omega]
theorem zC_hand {k : Nat} (h : k < zN Z 0) (h2 : k < 20) : zC Z sb mcn cp e0 ad (200 + k) = some (.inr (5, sHand Z sb ad k)) := by
  simp only [zC]
  rw [if_neg (by omega), if_neg (by omega), if_neg (by omega), if_pos (by omega), show 200 + k - 200 = k by omega, if_pos h]
theorem zC_singer {k : Nat} (h : k < zN Z 1) (h2 : k < 20) : zC Z sb mcn cp e0 ad (220 + k) = some (.inr (8, sSinger Z k)) := by
  simp only [zC]
  rw [if_neg (by omega), if_neg (by omega), if_neg (by omega), if_neg (by omega), if_pos (by omega), show 220 + k - 220 = k by omega, if_pos h]
/-- a number of a seat changes -/
theorem zp_seat {k F p : Nat} {v : Int32} (hk : k < 80) (hF : F < 9) (hs : sSeat (zu Z F k v) ad k = (sSeat Z ad k).set p (.int v)) : ∀ j, zent (zu Z F k v) sb mcn cp e0 Y th o od ad j = if j = 100 + k then some (.inr (7, (sSeat Z ad k).set p (.int v))) else zent Z sb mcn cp e0 Y th o od ad j := by
  have hz : ∀ f a, 9 ≤ f → zu Z F k v f a = Z f a := fun f a h => zu_f (by omega)
  refine zp_gen (by omega) (by rw [zC_seat hk, hs]) (fun _ => ?_) (fun _ => ?_) (fun _ => ?_) (fun a _ => hz _ _ (by omega)) (fun b hb hn => ?_) (fun b _ _ => ?_) (fun b _ _ => ?_) (fun b _ _ => ?_)
  · simp [eX, hz]
  · simp [eHouse, hz]
  · simp [eEv, hz]
  · have : b ≠ k := by omega
    simp only [sSeat, zu_k this]
  · simp [sHand, hz]
  · simp [sSinger, hz]
  · simp [sCue, hz]
theorem zp_seat_who {k : Nat} {v : Int32} (hk : k < 80) : ∀ j, zent (zu Z 0 k v) sb mcn cp e0 Y th o od ad j = if j = 100 + k then some (.inr (7, (sSeat Z ad k).set 0 (.int v))) else zent Z sb mcn cp e0 Y th o od ad j := zp_seat hk (by omega) (by simp [sSeat, zu])
theorem zp_seat_threshold {k : Nat} {v : Int32} (hk : k < 80) : ∀ j, zent (zu Z 1 k v) sb mcn cp e0 Y th o od ad j = if j = 100 + k then some (.inr (7, (sSeat Z ad k).set 1 (.int v))) else zent Z sb mcn cp e0 Y th o od ad j := zp_seat hk (by omega) (by simp [sSeat, zu])
theorem zp_seat_noise {k : Nat} {v : Int32} (hk : k < 80) : ∀ j, zent (zu Z 3 k v) sb mcn cp e0 Y th o od ad j = if j = 100 + k then some (.inr (7, (sSeat Z ad k).set 3 (.int v))) else zent Z sb mcn cp e0 Y th o od ad j := zp_seat hk (by omega) (by simp [sSeat, zu])
theorem zp_seat_noiseAhead {k : Nat} {v : Int32} (hk : k < 80) : ∀ j, zent (zu Z 5 k v) sb mcn cp e0 Y th o od ad j = if j = 100 + k then some (.inr (7, (sSeat Z ad k).set 4 (.int v))) else zent Z sb mcn cp e0 Y th o od ad j := zp_seat hk (by omega) (by simp [sSeat, zu])
theorem zp_seat_joined {k : Nat} {v : Int32} (hk : k < 80) : ∀ j, zent (zu Z 6 k v) sb mcn cp e0 Y th o od ad j = if j = 100 + k then some (.inr (7, (sSeat Z ad k).set 5 (.int v))) else zent Z sb mcn cp e0 Y th o od ad j := zp_seat hk (by omega) (by simp [sSeat, zu])
theorem zp_seat_joins {k : Nat} {v : Int32} (hk : k < 80) : ∀ j, zent (zu Z 4 k v) sb mcn cp e0 Y th o od ad j = if j = 100 + k then some (.inr (7, (sSeat Z ad k).set 6 (.int v))) else zent Z sb mcn cp e0 Y th o od ad j := zp_seat hk (by omega) (by simp [sSeat, zu])
theorem zp_seat_hissed {k : Nat} {v : Int32} (hk : k < 80) : ∀ j, zent (zu Z 7 k v) sb mcn cp e0 Y th o od ad j = if j = 100 + k then some (.inr (7, (sSeat Z ad k).set 7 (.int v))) else zent Z sb mcn cp e0 Y th o od ad j := zp_seat hk (by omega) (by simp [sSeat, zu])
theorem zp_seat_hissedAhead {k : Nat} {v : Int32} (hk : k < 80) : ∀ j, zent (zu Z 8 k v) sb mcn cp e0 Y th o od ad j = if j = 100 + k then some (.inr (7, (sSeat Z ad k).set 8 (.int v))) else zent Z sb mcn cp e0 Y th o od ad j := zp_seat hk (by omega) (by simp [sSeat, zu])
/-- a seat's hand changes -/
theorem zp_seat_hand {k : Nat} {v : Int32} {r : Option Nat} (hk : k < 80) (hr : zh v = r) : ∀ j, zent (zu Z 2 k v) sb mcn cp e0 Y th o od ad j = if j = 100 + k then some (.inr (7, (sSeat Z ad k).set 2 (va_rf (r.map (fun j => ad (200 + j)))))) else zent Z sb mcn cp e0 Y th o od ad j := by
  have hz : ∀ f a, 9 ≤ f → zu Z 2 k v f a = Z f a := fun f a h => zu_f (by omega)
  subst hr
  refine zp_gen (by omega) (by rw [zC_seat hk]; simp [sSeat, zu]) (fun _ => ?_) (fun _ => ?_) (fun _ => ?_) (fun a _ => hz _ _ (by omega)) (fun b hb hn => ?_) (fun b _ _ => ?_) (fun b _ _ => ?_) (fun b _ _ => ?_)
  · simp [eX, hz]
  · simp [eHouse, hz]
  · simp [eEv, hz]
  · have : b ≠ k := by omega
    simp only [sSeat, zu_k this]
  · simp [sHand, hz]
  · simp [sSinger, hz]
  · simp [sCue, hz]
/-- a hand's seat changes, its money -/
theorem zp_hand_seat {k : Nat} {r : Option Nat} (hk : k < zN Z 0) (h2 : k < 20) : ∀ j, zent Z (va_up sb k r) mcn cp e0 Y th o od ad j = if j = 200 + k then some (.inr (5, (sHand Z sb ad k).set 5 (va_rf (r.map (fun k => ad (100 + k)))))) else zent Z sb mcn cp e0 Y th o od ad j := by
  refine zp_gen (by omega) (by rw [zC_hand hk h2]; simp [sHand, va_up]) (fun _ => rfl) (fun _ => rfl) (fun _ => rfl) (fun a _ => rfl) (fun b hb hn => rfl) (fun b _ hn => ?_) (fun b _ _ => rfl) (fun b _ _ => rfl)
  have : b ≠ k := by omega
  simp [sHand, va_up, this]
theorem zp_hand_money {k : Nat} {v : Int32} (hk : k < zN Z 0) (h2 : k < 20) : ∀ j, zent (zu Z 14 k v) sb mcn cp e0 Y th o od ad j = if j = 200 + k then some (.inr (5, (sHand Z sb ad k).set 4 (.int v))) else zent Z sb mcn cp e0 Y th o od ad j := by
  refine zp_gen (by omega) (by rw [zC_hand (by simpa [zN, zu] using hk) h2]; simp [sHand, zu]) (fun _ => by simp [eX, zu]) (fun _ => by simp [eHouse, zu]) (fun _ => by simp [eEv, zu]) (fun a _ => by simp [zu]; omega) (fun b hb hn => by simp [sSeat, zu]) (fun b _ hn => ?_) (fun b _ _ => by simp [sSinger, zu]) (fun b _ _ => by simp [sCue, zu])
  have : b ≠ k := by omega
  simp [sHand, zu, this]
/-- a singer's calls, and debt -/
theorem zp_singer_calls {k : Nat} {v : Int32} (hk : k < zN Z 1) (h2 : k < 20) : ∀ j, zent (zu Z 18 k v) sb mcn cp e0 Y th o od ad j = if j = 220 + k then some (.inr (8, (sSinger Z k).set 2 (.int v))) else zent Z sb mcn cp e0 Y th o od ad j := by
  refine zp_gen (by omega) (by rw [zC_singer (by simpa [zN, zu] using hk) h2]; simp [sSinger, zu]) (fun _ => by simp [eX, zu]) (fun _ => by simp [eHouse, zu]) (fun _ => by simp [eEv, zu]) (fun a _ => by simp [zu]; omega) (fun b hb hn => by simp [sSeat, zu]) (fun b _ hn => by simp [sHand, zu]) (fun b _ hn => ?_) (fun b _ _ => by simp [sCue, zu])
  have : b ≠ k := by omega
  simp [sSinger, zu, this]
theorem zp_singer_owed {k : Nat} {v : Int32} (hk : k < zN Z 1) (h2 : k < 20) : ∀ j, zent (zu Z 17 k v) sb mcn cp e0 Y th o od ad j = if j = 220 + k then some (.inr (8, (sSinger Z k).set 3 (.int v))) else zent Z sb mcn cp e0 Y th o od ad j := by
  refine zp_gen (by omega) (by rw [zC_singer (by simpa [zN, zu] using hk) h2]; simp [sSinger, zu]) (fun _ => by simp [eX, zu]) (fun _ => by simp [eHouse, zu]) (fun _ => by simp [eEv, zu]) (fun a _ => by simp [zu]; omega) (fun b hb hn => by simp [sSeat, zu]) (fun b _ hn => by simp [sHand, zu]) (fun b _ hn => ?_) (fun b _ _ => by simp [sCue, zu])
  have : b ≠ k := by omega
  simp [sSinger, zu, this]
/-- single numbers: of the evening (28 to 33, slots 1 to 6), the house (23, 24: 1, 2), the claque (34, 35: 4, 5) -/
theorem zp_ev {F p : Nat} {v : Int32} (hF : 28 ≤ F ∧ F < 34) (hs : eEv (zu Z F 0 v) ad = .inr (4, ([.ref (ad 7), .int (Z 28 0), .int (Z 29 0), .int (Z 30 0), .int (Z 31 0), .int (Z 32 0), .int (Z 33 0)] : List Value).set p (.int v))) : ∀ j, zent (zu Z F 0 v) sb mcn cp e0 Y th o od ad j = if j = 4 then some (.inr (4, ([.ref (ad 7), .int (Z 28 0), .int (Z 29 0), .int (Z 30 0), .int (Z 31 0), .int (Z 32 0), .int (Z 33 0)] : List Value).set p (.int v))) else zent Z sb mcn cp e0 Y th o od ad j := by
  have hz : ∀ f a, f < 28 ∨ 34 ≤ f → zu Z F 0 v f a = Z f a := fun f a h => zu_f (by omega)
  refine zp_gen (by omega) (by rw [← hs]; rfl) (fun _ => by simp [eX, hz]) (fun _ => by simp [eHouse, hz]) (fun h => absurd rfl h) (fun a _ => hz _ _ (by omega)) (fun b hb hn => by simp [sSeat, hz]) (fun b _ hn => by simp [sHand, hz]) (fun b _ hn => by simp [sSinger, hz]) (fun b _ _ => by simp [sCue, hz])
theorem zp_house {F p : Nat} {v : Int32} (hF : F = 23 ∨ F = 24) (hs : eHouse (zu Z F 0 v) ad = .inr (6, ([.ref (ad 2), .int (Z 23 0), .int (Z 24 0)] : List Value).set p (.int v))) : ∀ j, zent (zu Z F 0 v) sb mcn cp e0 Y th o od ad j = if j = 1 then some (.inr (6, ([.ref (ad 2), .int (Z 23 0), .int (Z 24 0)] : List Value).set p (.int v))) else zent Z sb mcn cp e0 Y th o od ad j := by
  have hz : ∀ f a, f < 23 ∨ 25 ≤ f → zu Z F 0 v f a = Z f a := fun f a h => zu_f (by omega)
  refine zp_gen (by omega) (by rw [← hs]; rfl) (fun _ => by simp [eX, hz]) (fun h => absurd rfl h) (fun _ => by simp [eEv, hz]) (fun a _ => hz _ _ (by omega)) (fun b hb hn => by simp [sSeat, hz]) (fun b _ hn => by simp [sHand, hz]) (fun b _ hn => by simp [sSinger, hz]) (fun b _ _ => by simp [sCue, hz])
theorem zp_x {F p : Nat} {v : Int32} (hF : F = 34 ∨ F = 35) (hs : eX (zu Z F 0 v) ad = .inr (10, ([.ref (ad 1), .ref (ad 3), .ref (ad 6), .ref (ad 4), .int (Z 34 0), .int (Z 35 0)] : List Value).set p (.int v))) : ∀ j, zent (zu Z F 0 v) sb mcn cp e0 Y th o od ad j = if j = 0 then some (.inr (10, ([.ref (ad 1), .ref (ad 3), .ref (ad 6), .ref (ad 4), .int (Z 34 0), .int (Z 35 0)] : List Value).set p (.int v))) else zent Z sb mcn cp e0 Y th o od ad j := by
  have hz : ∀ f a, f < 34 ∨ 36 ≤ f → zu Z F 0 v f a = Z f a := fun f a h => zu_f (by omega)
  refine zp_gen (by omega) (by rw [← hs]; rfl) (fun h => absurd rfl h) (fun _ => by simp [eHouse, hz]) (fun _ => by simp [eEv, hz]) (fun a _ => hz _ _ (by omega)) (fun b hb hn => by simp [sSeat, hz]) (fun b _ hn => by simp [sHand, hz]) (fun b _ hn => by simp [sSinger, hz]) (fun b _ _ => by simp [sCue, hz])
/-- the reference: an array's place, a number -/
theorem zp_marr {i k : Nat} {v : Int32} (hi : i < 23) : ∀ j, zent Z sb mcn cp e0 (zu Y i k v) th o od ad j = if j = 301 + i then some (.inl (mty i, (mln i, .inl (upd (Y i) k v)))) else zent Z sb mcn cp e0 Y th o od ad j := by
  intro j
  by_cases hj : j = 301 + i
  · subst hj
    rw [if_pos rfl, zg_marr hi]
    rw [show zu Y i k v i = upd (Y i) k v from funext fun b => by simp [zu, upd]]
  · rw [if_neg hj]
    by_cases h : j < 300
    · simp only [zent, if_pos h]
    · simp only [zent, if_neg h, zD]
      by_cases h1 : j = 300
      · have hz : ∀ f a, 23 ≤ f → zu Y i k v f a = Y f a := fun f a h => zu_f (by omega)
        rw [if_pos h1, if_pos h1]
        simp [sModel, hz]
      · rw [if_neg h1, if_neg h1]
        by_cases h2 : j < 324
        · rw [if_pos h2, if_pos h2]
          rw [show zu Y i k v (j - 301) = Y (j - 301) from funext fun b => zu_f (by omega)]
        · rw [if_neg h2, if_neg h2]
theorem zp_model {F : Nat} {v : Int32} (hF : 23 ≤ F ∧ F < 36) (hs : sModel (zu Y F 0 v) th ad = (sModel Y th ad).set F (.int v)) : ∀ j, zent Z sb mcn cp e0 (zu Y F 0 v) th o od ad j = if j = 300 then some (.inr (11, (sModel Y th ad).set F (.int v))) else zent Z sb mcn cp e0 Y th o od ad j := by
  intro j
  by_cases hj : j = 300
  · subst hj
    rw [if_pos rfl, zg_model, hs]
  · rw [if_neg hj]
    by_cases h : j < 300
    · simp only [zent, if_pos h]
    · simp only [zent, if_neg h, zD, if_neg hj]
      by_cases h2 : j < 324
      · rw [if_pos h2, if_pos h2]
        rw [show zu Y F 0 v (j - 301) = Y (j - 301) from funext fun b => zu_f (by omega)]
      · rw [if_neg h2, if_neg h2]
theorem zp_thrown {v : Int32} : ∀ j, zent Z sb mcn cp e0 Y v o od ad j = if j = 300 then some (.inr (11, (sModel Y th ad).set 36 (.int v))) else zent Z sb mcn cp e0 Y th o od ad j := by
  intro j
  by_cases hj : j = 300
  · subst hj
    rw [if_pos rfl, zg_model]
    rfl
  · rw [if_neg hj]
    by_cases h : j < 300
    · simp only [zent, if_pos h]
    · simp only [zent, if_neg h, zD, if_neg hj]
theorem zp_out {k : Nat} {v : Int64} : ∀ j, zent Z sb mcn cp e0 Y th (vp_updL o k v) od ad j = if j = 340 then some (.inl (3, (1, .inr (.inl (vp_updL o k v))))) else zent Z sb mcn cp e0 Y th o od ad j := by
  intro j
  by_cases hj : j = 340
  · subst hj
    rw [if_pos rfl]
    rfl
  · rw [if_neg hj]
    simp only [zent, zD, if_neg hj]
end ZENT
end
section
theorem zI {c : Cond} : ∀ x ∈ zAll, x ∈ c :: zAll := fun _ h => List.mem_cons_of_mem _ h
section ZMORE
variable {G : zG} {l : Launch} {own : String} {cc : ByteArray} {nL : Nat} {ret : Option FieldType} {ws : List Cond} {R : Room} {mc ms : Nat} {et : List ExceptionTableEntry} {PQ : Option Value → zH → (Nat → Nat) → Prop} {PX : String → zH → (Nat → Nat) → Prop} {ini : Prop} {X : zXT} {kc ks pc : Nat} {lsv : List (Nat × Value)} {rest : List Value} {w : zH} {ad : Nat → Nat}
theorem z_mmax (O : zOK G l own cc nL ret ws R mc ms et PQ PX ini X) {index : Nat} (hws : ∀ x ∈ zAll, x ∈ ws) (h1 : Cond.methodLink own index Lib.Math.max.name ∈ zAll) (h2 : Cond.static Lib.Math.max.name ∈ zAll) (h3 : Cond.initialized "java/lang/Math" ∈ zAll) (h4 : Cond.code Lib.Math.max.name Lib.Math.max.code 2 (some .int) ∈ zAll) (hdg : decode cc pc = .ok (.invokestatic index, 3)) (hf : 1 ≤ R.frames) (hlo : (rest.map fun v => v.category).sum + 13 ≤ R.locals) (hc : kc ≤ R.cells) (hs : ks ≤ R.slots) {x y : Int32}
    (kk : zV G X nL kc ks (pc + 3) lsv (.int (if x < y then y else x) :: rest) w ad) : zV G X nL kc ks pc lsv (.int y :: .int x :: rest) w ad := by
  obtain ⟨p, e, s, m, args, below, meth, c, hx0, hb, hr, hts, hown, hlocks, hml, het, hini, hbase, hK, hSt, hfl, rfl⟩ := O
  intro H lsA hR hL locs hS
  exact va_mmax hx0 hb (hml.trans hL.1.symm) hown (hts _ (hws _ h1)) (hts _ (hws _ h2)) (hts _ (hws _ h3)) (hts _ (hws _ h4)) hf hlo hc hs hdg (kk H lsA hR hL locs hS)
theorem z_mmin (O : zOK G l own cc nL ret ws R mc ms et PQ PX ini X) {index : Nat} (hws : ∀ x ∈ zAll, x ∈ ws) (h1 : Cond.methodLink own index Lib.Math.min.name ∈ zAll) (h2 : Cond.static Lib.Math.min.name ∈ zAll) (h3 : Cond.initialized "java/lang/Math" ∈ zAll) (h4 : Cond.code Lib.Math.min.name Lib.Math.min.code 2 (some .int) ∈ zAll) (hdg : decode cc pc = .ok (.invokestatic index, 3)) (hf : 1 ≤ R.frames) (hlo : (rest.map fun v => v.category).sum + 13 ≤ R.locals) (hc : kc ≤ R.cells) (hs : ks ≤ R.slots) {x y : Int32}
    (kk : zV G X nL kc ks (pc + 3) lsv (.int (if y < x then y else x) :: rest) w ad) : zV G X nL kc ks pc lsv (.int y :: .int x :: rest) w ad := by
  obtain ⟨p, e, s, m, args, below, meth, c, hx0, hb, hr, hts, hown, hlocks, hml, het, hini, hbase, hK, hSt, hfl, rfl⟩ := O
  intro H lsA hR hL locs hS
  exact va_mmin hx0 hb (hml.trans hL.1.symm) hown (hts _ (hws _ h1)) (hts _ (hws _ h2)) (hts _ (hws _ h3)) (hts _ (hws _ h4)) hf hlo hc hs hdg (kk H lsA hR hL locs hS)
/-- a cell of a class is cast to it -/
theorem z_cast0 (O : zOK G l own cc nL ret ws R mc ms et PQ PX ini X) {C : String} {T : u_T} {N ci i index : Nat} {fs : List Value} (hc : vwCl[ci]? = some (C, T, N)) (hcl : Cond.classLink own index C ∈ ws) (hw : w i = some (.inr (ci, fs))) (hdg : decode cc pc = .ok (.checkcast index, 3))
    (kk : zV G X nL kc ks (pc + 3) lsv (.ref (ad i) :: rest) w ad) : zV G X nL kc ks pc lsv (.ref (ad i) :: rest) w ad := by
  obtain ⟨p, e, s, m, args, below, meth, c, hx0, hb, hr, hts, hown, hlocks, hml, het, hini, hbase, hK, hSt, hfl, rfl⟩ := O
  intro H lsA hR hL locs hS
  obtain ⟨q', h1, cell, g1, g2, g3, -⟩ := (hR.1 i _ hw).2
  exact va_castS hx0 hb hown (hts _ hcl) (hK.1 ci _ hc).2 ⟨cell, g1, by rw [g3]; rfl, by rw [g2]; exact (hK.1 ci _ hc).2.1⟩ hdg (kk H lsA hR hL locs hS)
/-- 'throw new E("text")' out of a method without handlers -/
theorem z_throw (O : zOK G l RX7 cc nL ret ws R mc ms [] PQ PX ini X) {E text : String} {ik is ic : Nat} (hws : ∀ x ∈ zAll, x ∈ ws) (hE : E ∈ zExs) (hT : (is, text) ∈ zStr) (hk : Cond.classLink RX7 ik E ∈ zAll) (hi : Cond.initialized E ∈ zAll)
    (hat : ∀ x ∈ (vx_atS RX7 ic E ["java/lang/RuntimeException", "java/lang/Exception"]).filter goodWord, x ∈ zAll) (hbad : ∀ x ∈ (vx_atS RX7 ic E ["java/lang/RuntimeException", "java/lang/Exception"]).filter (fun x => !goodWord x), x ∈ Cond.castable E E :: zDec.map (fun Y => Cond.declares (Bundle.initS Y)))
    (hgood : ∀ x ∈ Cond.classLink RX7 ik E :: Cond.initialized E :: vx_atS RX7 ic E ["java/lang/RuntimeException", "java/lang/Exception"], vx_ot x = true) (hfit : Bundle.fit E = true)
    (d0 : decode cc pc = .ok (.new ik, 3)) (d3 : decode cc (pc + 3) = .ok (.dup, 1)) (d4 : decode cc (pc + 4) = .ok (.ldc is, 2)) (d6 : decode cc (pc + 6) = .ok (.invokespecial ic, 3)) (d9 : decode cc (pc + 9) = .ok (.athrow, 1))
    (hRf : 5 < R.frames) (hRl : (rest.map fun v => v.category).sum + 82 ≤ R.locals) (hRc : kc + 1 ≤ R.cells) (hRs : ks + 6 ≤ R.slots) (hc : kc + 1 ≤ mc) (hs : ks + 6 ≤ ms) (hx : PX E w ad) : zV G X nL kc ks pc lsv rest w ad := by
  obtain ⟨p, e, s, m, args, below, meth, c, hx0, hb, hr, hts, hown, hlocks, hml, het, hini, hbase, hK, hSt, hfl, rfl⟩ := O
  intro H lsA hR hL locs hS
  obtain ⟨sa, hsa⟩ := hSt.2.1 _ hT
  refine vx_throwS (sa := sa) (names := ["java/lang/RuntimeException", "java/lang/Exception"]) hx0 hb hfl hown hfit (by decide +kernel) (hts _ (hws _ hk)) (hts _ (hws _ hi)) hsa ?_ hgood hSt.1.1 hSt.1.2.1 hS (hL.1.trans hml.symm) d0 d3 d4 d6 d9 (by rw [het]; exact fun x hx => by cases hx) (by show 2 + 3 < _; omega) (by show _ + (13 * (2 + 1) + 43) ≤ _; omega) hRc hRs hlocks ?_ hS.2.2 hc hs
  · refine vx_hat (fun x h => hts _ (hws _ (hat x h))) hbad ?_
    refine vx_c (va_Nw.use rfl (hSt.2.2.1 E hE)) (fun x hx9 => ?_)
    obtain ⟨Y, hY, rfl⟩ := List.mem_map.mp hx9
    exact va_Nw.use rfl (hSt.2.2.2.2.2.2.2.2.2.1 Y hY)
  · intro t _ h1 h2
    exact ⟨⟨w, ad, hx, hR.kept h2⟩, Nat.le_trans hS.1 h1, fun q g1 g2 => (h2 q (Nat.lt_of_lt_of_le g1 hS.1)).trans (hS.2.1 q g1 g2)⟩
theorem z_throwW (O : zOK G l RX7 cc nL ret ws R mc ms [] PQ PX ini X) {E text : String} {ik is ic : Nat} (hws : ∀ x ∈ zAll, x ∈ ws) (hE : E ∈ zExs) (hT : (is, text) ∈ zStr) (hk : Cond.classLink RX7 ik E ∈ zAll) (hi : Cond.initialized E ∈ zAll)
    (hat : ∀ x ∈ (vx_atS RX7 ic E ["java/lang/RuntimeException", "java/lang/Exception"]).filter goodWord, x ∈ zAll) (hbad : ∀ x ∈ (vx_atS RX7 ic E ["java/lang/RuntimeException", "java/lang/Exception"]).filter (fun x => !goodWord x), x ∈ Cond.castable E E :: zDec.map (fun Y => Cond.declares (Bundle.initS Y)))
    (hgood : ∀ x ∈ Cond.classLink RX7 ik E :: Cond.initialized E :: vx_atS RX7 ic E ["java/lang/RuntimeException", "java/lang/Exception"], vx_ot x = true) (hfit : Bundle.fit E = true)
    (d0 : decode cc pc = .ok (.new ik, 3)) (d3 : decode cc (pc + 3) = .ok (.dup, 1)) (d4 : decode cc (pc + 4) = .ok (.ldc_w is, 3)) (d7 : decode cc (pc + 7) = .ok (.invokespecial ic, 3)) (d10 : decode cc (pc + 10) = .ok (.athrow, 1))
    (hRf : 5 < R.frames) (hRl : (rest.map fun v => v.category).sum + 82 ≤ R.locals) (hRc : kc + 1 ≤ R.cells) (hRs : ks + 6 ≤ R.slots) (hc : kc + 1 ≤ mc) (hs : ks + 6 ≤ ms) (hx : PX E w ad) : zV G X nL kc ks pc lsv rest w ad := by
  obtain ⟨p, e, s, m, args, below, meth, c, hx0, hb, hr, hts, hown, hlocks, hml, het, hini, hbase, hK, hSt, hfl, rfl⟩ := O
  intro H lsA hR hL locs hS
  obtain ⟨sa, hsa⟩ := hSt.2.1 _ hT
  refine vx_throwSW (sa := sa) (names := ["java/lang/RuntimeException", "java/lang/Exception"]) hx0 hb hfl hown hfit (by decide +kernel) (hts _ (hws _ hk)) (hts _ (hws _ hi)) hsa ?_ hgood hSt.1.1 hSt.1.2.1 hS (hL.1.trans hml.symm) d0 d3 d4 d7 d10 (by rw [het]; exact fun x hx => by cases hx) (by show 2 + 3 < _; omega) (by show _ + (13 * (2 + 1) + 43) ≤ _; omega) hRc hRs hlocks ?_ hS.2.2 hc hs
  · refine vx_hat (fun x h => hts _ (hws _ (hat x h))) hbad ?_
    refine vx_c (va_Nw.use rfl (hSt.2.2.1 E hE)) (fun x hx9 => ?_)
    obtain ⟨Y, hY, rfl⟩ := List.mem_map.mp hx9
    exact va_Nw.use rfl (hSt.2.2.2.2.2.2.2.2.2.1 Y hY)
  · intro t _ h1 h2
    exact ⟨⟨w, ad, hx, hR.kept h2⟩, Nat.le_trans hS.1 h1, fun q g1 g2 => (h2 q (Nat.lt_of_lt_of_le g1 hS.1)).trans (hS.2.1 q g1 g2)⟩
theorem z_iinc1 (O : zOK G l own cc nL ret ws R mc ms et PQ PX ini X) {i : Nat} {x : Int32} (hdg : decode cc pc = .ok (.iinc i 1, 3)) (hl : zL lsv i = some (.int x)) (hn : i < nL) (kk : zV G X nL kc ks (pc + 3) (zS lsv i (.int (x + 1))) rest w ad) : zV G X nL kc ks pc lsv rest w ad := z_iinc O hdg hl rfl hn kk
/-- the same, of a counter -/
theorem z_iincN (O : zOK G l own cc nL ret ws R mc ms et PQ PX ini X) {i a : Nat} (hdg : decode cc pc = .ok (.iinc i 1, 3)) (hl : zL lsv i = some (.int (nI a))) (hn : i < nL) (kk : zV G X nL kc ks (pc + 3) (zS lsv i (.int (nI (a + 1)))) rest w ad) : zV G X nL kc ks pc lsv rest w ad := z_iinc O hdg hl (nI_1 a) hn kk
/-- a loop's head: the counter against its bound -/
theorem z_ge_lt {a b : Nat} (ha : a < 2 ^ 31) (hb : b < 2 ^ 31) (h : ¬ nI b ≤ nI a) : a < b := by
  rcases Nat.lt_or_ge a b with q | q
  · exact q
  · exact absurd ((nI_leI hb ha).mpr q) h
theorem z_ge_ge {a b : Nat} (ha : a < 2 ^ 31) (hb : b < 2 ^ 31) (h : nI b ≤ nI a) : b ≤ a := (nI_leI hb ha).mp h
end ZMORE
theorem zbad_253 : ∀ x ∈ (vx_atS RX7 253 "java/lang/IllegalArgumentException" ["java/lang/RuntimeException", "java/lang/Exception"]).filter (fun x => !goodWord x), x ∈ Cond.castable "java/lang/IllegalArgumentException" "java/lang/IllegalArgumentException" :: zDec.map (fun Y => Cond.declares (Bundle.initS Y)) := by decide +kernel
theorem zok_253 : ∀ x ∈ Cond.classLink RX7 249 "java/lang/IllegalArgumentException" :: Cond.initialized "java/lang/IllegalArgumentException" :: vx_atS RX7 253 "java/lang/IllegalArgumentException" ["java/lang/RuntimeException", "java/lang/Exception"], vx_ot x = true := by decide +kernel
theorem zbad_260 : ∀ x ∈ (vx_atS RX7 260 "java/lang/IndexOutOfBoundsException" ["java/lang/RuntimeException", "java/lang/Exception"]).filter (fun x => !goodWord x), x ∈ Cond.castable "java/lang/IndexOutOfBoundsException" "java/lang/IndexOutOfBoundsException" :: zDec.map (fun Y => Cond.declares (Bundle.initS Y)) := by decide +kernel
theorem zok_260 : ∀ x ∈ Cond.classLink RX7 256 "java/lang/IndexOutOfBoundsException" :: Cond.initialized "java/lang/IndexOutOfBoundsException" :: vx_atS RX7 260 "java/lang/IndexOutOfBoundsException" ["java/lang/RuntimeException", "java/lang/Exception"], vx_ot x = true := by decide +kernel
theorem zbad_82 : ∀ x ∈ (vx_atS RX7 82 "java/lang/UnsupportedOperationException" ["java/lang/RuntimeException", "java/lang/Exception"]).filter (fun x => !goodWord x), x ∈ Cond.castable "java/lang/UnsupportedOperationException" "java/lang/UnsupportedOperationException" :: zDec.map (fun Y => Cond.declares (Bundle.initS Y)) := by decide +kernel
theorem zok_82 : ∀ x ∈ Cond.classLink RX7 78 "java/lang/UnsupportedOperationException" :: Cond.initialized "java/lang/UnsupportedOperationException" :: vx_atS RX7 82 "java/lang/UnsupportedOperationException" ["java/lang/RuntimeException", "java/lang/Exception"], vx_ot x = true := by decide +kernel
theorem zbad_108 : ∀ x ∈ (vx_atS RX7 108 "java/lang/IllegalStateException" ["java/lang/RuntimeException", "java/lang/Exception"]).filter (fun x => !goodWord x), x ∈ Cond.castable "java/lang/IllegalStateException" "java/lang/IllegalStateException" :: zDec.map (fun Y => Cond.declares (Bundle.initS Y)) := by decide +kernel
theorem zok_108 : ∀ x ∈ Cond.classLink RX7 104 "java/lang/IllegalStateException" :: Cond.initialized "java/lang/IllegalStateException" :: vx_atS RX7 108 "java/lang/IllegalStateException" ["java/lang/RuntimeException", "java/lang/Exception"], vx_ot x = true := by decide +kernel
theorem zbad_272 : ∀ x ∈ (vx_atS RX7 272 "java/util/NoSuchElementException" ["java/lang/RuntimeException", "java/lang/Exception"]).filter (fun x => !goodWord x), x ∈ Cond.castable "java/util/NoSuchElementException" "java/util/NoSuchElementException" :: zDec.map (fun Y => Cond.declares (Bundle.initS Y)) := by decide +kernel
theorem zok_272 : ∀ x ∈ Cond.classLink RX7 268 "java/util/NoSuchElementException" :: Cond.initialized "java/util/NoSuchElementException" :: vx_atS RX7 272 "java/util/NoSuchElementException" ["java/lang/RuntimeException", "java/lang/Exception"], vx_ot x = true := by decide +kernel
theorem zbad_242 : ∀ x ∈ (vx_atS RX7 242 "java/lang/ArithmeticException" ["java/lang/RuntimeException", "java/lang/Exception"]).filter (fun x => !goodWord x), x ∈ Cond.castable "java/lang/ArithmeticException" "java/lang/ArithmeticException" :: zDec.map (fun Y => Cond.declares (Bundle.initS Y)) := by decide +kernel
theorem zok_242 : ∀ x ∈ Cond.classLink RX7 238 "java/lang/ArithmeticException" :: Cond.initialized "java/lang/ArithmeticException" :: vx_atS RX7 242 "java/lang/ArithmeticException" ["java/lang/RuntimeException", "java/lang/Exception"], vx_ot x = true := by decide +kernel
end
section
section ZROWS2
variable {G : zG} {l : Launch} {own : String} {cc : ByteArray} {nL : Nat} {ret : Option FieldType} {ws : List Cond} {R : Room} {mc ms : Nat} {et : List ExceptionTableEntry} {PQ : Option Value → zH → (Nat → Nat) → Prop} {PX : String → zH → (Nat → Nat) → Prop} {ini : Prop} {X : zXT} {kc ks pc : Nat} {lsv : List (Nat × Value)} {rest : List Value} {w : zH} {ad : Nat → Nat}
theorem zup_s {α : Type} (f : Nat → α) (k : Nat) (v : α) : va_up f k v k = v := by simp [va_up]
theorem zup_n {α : Type} {f : Nat → α} {k j : Nat} {v : α} (h : j ≠ k) : va_up f k v j = f j := by simp [va_up, h]
theorem zS_new {A : Nat → Prop} {H0 H H1 : Heap} {locs : List Loc} (hS : va_S A H0 H locs) (z : H1.size = H.size + 1) (o1 : ∀ q, q < H.size → H1[q]? = H[q]?) : va_S A H0 H1 locs :=
  ⟨Nat.le_trans hS.1 (by omega), fun x h1 h2 => (o1 x (Nat.lt_of_lt_of_le h1 hS.1)).trans (hS.2.1 x h1 h2), hS.2.2⟩
/-- a cell of a class is made -/
theorem z_new (O : zOK G l own cc nL ret ws R mc ms et PQ PX ini X) {C : String} {T : u_T} {N ci index : Nat} {fs : List Value} {w' : Nat → zH} (i : Nat) (hin : ∀ x ∈ u_ws C T N, x ∈ ws) (ty : Nat → FieldType) (hty : ∀ k, k < N → parseFieldDescriptor (T k).2.2.1 = some (ty k)) (hcl : Cond.classLink own index C ∈ ws) (hinst : Cond.instantiable C N ∈ ws) (hini0 : Cond.initialized C ∈ ws) (hc : vwCl[ci]? = some (C, T, N)) (hfs : ∀ j, j < N → defaultValue (ty j) = vp_V fs j) (hcells : kc + 1 ≤ R.cells) (hslots : ks + N ≤ R.slots) (hdg : decode cc pc = .ok (.new index, 3)) (hi : w i = none) (hw' : ∀ q j, w' q j = if j = i then some (.inr (ci, fs)) else w j)
    (kk : ∀ q, zV G X nL (kc + 1) (ks + N) (pc + 3) lsv (.ref (va_up ad i q i) :: rest) (w' q) (va_up ad i q)) : zV G X nL kc ks pc lsv rest w ad := by
  obtain ⟨p, e, s, m, args, below, meth, c, hx0, hb, hr, hts, hown, hlocks, hml, het, hini, hbase, hK, hSt, hfl, rfl⟩ := O
  intro H lsA hR hL locs hS
  have hKn := hK.1 ci _ hc
  refine W.newcK hx0 hb hown (hts _ hcl) (hts _ hinst) (hts _ hini0) rfl hdg hcells hslots hKn.2.1 rfl fun H1 kC hkC e1 z1 o1 => ?_
  have k9 := kk H.size H1 lsA (zRep.new hR hi (Nat.le_trans hbase hS.1) (e := .inr (ci, fs)) ⟨_, hc, (u_born ty hts hin hKn hkC e1 hty).to hfs⟩ o1 (hw' H.size)) hL _ (zS_new hS z1 o1)
  rw [zup_s] at k9
  exact k9
/-- an array of numbers is made -/
theorem z_newa (O : zOK G l own cc nL ret ws R mc ms et PQ PX ini X) {atype : ArrayType} {w' : Nat → zH} (i t : Nat) (ht : t < 5) (harr : Cond.arrayClass (newarray.typeOf atype) ∈ ws) (hty : newarray.typeOf atype = zTy t) {n : Int32} {N : Nat} {a0 : vp_A} (ha : ∀ cA : ClassId, vp_cell cA a0 = arrV cA N (fun _ => defaultValue (zTy t))) (hn : ¬ n < 0) (hN : n.toNatClampNeg = N) (hbytes : N * componentBytes (zTy t) ≤ 536870912) (hcells : kc + 1 ≤ R.cells) (hslots : ks + N ≤ R.slots) (hdg : decode cc pc = .ok (.newarray atype, 2)) (hi : w i = none) (hw' : ∀ q j, w' q j = if j = i then some (.inl (t, a0)) else w j)
    (kk : ∀ q, zV G X nL (kc + 1) (ks + N) (pc + 2) lsv (.ref (va_up ad i q i) :: rest) (w' q) (va_up ad i q)) : zV G X nL kc ks pc lsv (.int n :: rest) w ad := by
  obtain ⟨p, e, s, m, args, below, meth, c, hx0, hb, hr, hts, hown, hlocks, hml, het, hini, hbase, hK, hSt, hfl, rfl⟩ := O
  intro H lsA hR hL locs hS
  refine va_newaK hx0 hb (hts _ harr) rfl hdg rfl hn hN (by rw [hty]; exact hbytes) hcells hslots rfl fun H1 cA e1 z1 o1 hAr hNm => ?_
  have hcA : cA = G.2.1 t := by
    rw [hty] at hNm
    have h9 := (hK.2 t _ (zTys_get G (by omega))).2
    rcases (show t = 0 ∨ t = 1 ∨ t = 2 ∨ t = 3 ∨ t = 4 by omega) with rfl | rfl | rfl | rfl | rfl <;> exact Option.some.inj (hNm.symm.trans h9)
  have k9 := kk H.size H1 lsA (zRep.new hR hi (Nat.le_trans hbase hS.1) (e := .inl (t, a0)) (show H1[H.size]? = some (vp_cell (G.2.1 t) a0) by rw [ha, ← hcA, e1, hty]) o1 (hw' H.size)) hL _ (zS_new hS z1 o1)
  rw [zup_s] at k9
  exact k9
/-- an array of cells is made: of seats (5), of any (6) -/
theorem z_anew (O : zOK G l own cc nL ret ws R mc ms et PQ PX ini X) {index : Nat} {w' : Nat → zH} (i t : Nat) {C : String} (hC : (t = 5 ∧ C = "ClaqueRow$Seat") ∨ (t = 6 ∧ C = "java/lang/Object")) (hcl : Cond.classLink own index C ∈ ws) {n : Int32} {N : Nat} (hn : ¬ n < 0) (hN : n.toNatClampNeg = N) (hbytes : N * 4 ≤ 536870912) (hcells : kc + 1 ≤ R.cells) (hslots : ks + N ≤ R.slots) (hdg : decode cc pc = .ok (.anewarray index, 3)) (hi : w i = none) (hw' : ∀ q j, w' q j = if j = i then some (.inl (t, (N, .inr (.inr (.inr (.inr (fun _ => none))))))) else w j)
    (kk : ∀ q, zV G X nL (kc + 1) (ks + N) (pc + 3) lsv (.ref (va_up ad i q i) :: rest) (w' q) (va_up ad i q)) : zV G X nL kc ks pc lsv (.int n :: rest) w ad := by
  obtain ⟨p, e, s, m, args, below, meth, c, hx0, hb, hr, hts, hown, hlocks, hml, het, hini, hbase, hK, hSt, hfl, rfl⟩ := O
  intro H lsA hR hL locs hS
  subst hN
  have hover : va_AO C s := by rcases hC with ⟨-, rfl⟩ | ⟨-, rfl⟩; exact hSt.2.2.2.2.2.2.2.1; exact hSt.2.2.2.2.2.2.2.2.1
  refine W.anew hx0 hb hown (hts _ hcl) (va_AO.use hover) rfl hdg rfl hn hbytes hcells hslots fun cA kA comp f1 f2 f3 f4 => ?_
  have hcA : cA = G.2.1 t := by
    rcases hC with ⟨rfl, rfl⟩ | ⟨rfl, rfl⟩
    · obtain ⟨-, -, -, -, -, h4⟩ := (hK.2 5 _ (zTys_get G (by decide))).2
      exact Option.some.inj (f1.symm.trans h4)
    · obtain ⟨-, -, -, -, -, h4⟩ := (hK.2 6 _ (zTys_get G (by decide))).2
      exact Option.some.inj (f1.symm.trans h4)
  generalize hH1 : H.push ({ cls := cA, slots := Array.replicate n.toNatClampNeg .null, vm := .none } : Cell) = H1
  have z1 : H1.size = H.size + 1 := by rw [← hH1, Array.size_push]
  have e1 : H1[H.size]? = some (arrV cA n.toNatClampNeg (fun _ => .null)) := by rw [← hH1, Array.getElem?_push_size, ← arrV_new]
  have o1 : ∀ q : Nat, q < H.size → H1[q]? = H[q]? := fun q hq => by rw [← hH1, Array.getElem?_push, if_neg (Nat.ne_of_lt hq)]
  have k9 := kk H.size H1 lsA (zRep.new hR hi (Nat.le_trans hbase hS.1) (e := .inl (t, (n.toNatClampNeg, .inr (.inr (.inr (.inr (fun _ => none))))))) (show H1[H.size]? = some (vp_cell (G.2.1 t) _) by rw [vp_cell_q, ← hcA]; exact e1) o1 (hw' H.size)) hL _ (zS_new hS z1 o1)
  rw [zup_s] at k9
  exact k9
/-- a cell is put into an array of any, or of seats -/
theorem z_aast (O : zOK G l own cc nL ret ws R mc ms et PQ PX ini X) {i n b ci : Nat} {f : Nat → Option Nat} {x : Int32} {w' : zH} {C : String} {T : u_T} {N : Nat} {fs : List Value} (hC : C ∈ zObs) (hc : vwCl[ci]? = some (C, T, N)) (hdg : decode cc pc = .ok (.aastore, 1)) (hw : w i = some (.inl (6, (n, .inr (.inr (.inr (.inr f))))))) (hb0 : w b = some (.inr (ci, fs))) (j : Nat) (hx : x = nI j) (hj : j < n) (hn : n < 2 ^ 31) (hw' : ∀ k, w' k = if k = i then some (.inl (6, (n, .inr (.inr (.inr (.inr (va_up f j (some (ad b))))))))) else w k)
    (kk : zV G X nL kc ks (pc + 1) lsv rest w' ad) : zV G X nL kc ks pc lsv (.ref (ad b) :: .int x :: .ref (ad i) :: rest) w ad := by
  obtain ⟨p, e, s, m, args, below, meth, c, hx0, hb, hr, hts, hown, hlocks, hml, het, hini, hbase, hK, hSt, hfl, rfl⟩ := O
  intro H lsA hR hL locs hS
  obtain ⟨hin, h2⟩ := z_in hx hj hn
  have hAt := hR.1 i _ hw
  obtain ⟨r', hr', cellV, g1, g2, g3, -⟩ := (hR.1 b _ hb0).2
  have hcls := (hK.1 ci _ hc).2
  obtain ⟨kA, comp, k1, k2, k3, -⟩ := (hK.2 6 _ (zTys_get G (by decide))).2
  obtain ⟨kE, hkE, -⟩ := Vm.findClass_spec k3
  obtain ⟨c0, t1, f1, f2, f3⟩ := Cond.castable_spec (va_Nw.use (A := args) rfl (hSt.2.2.2.2.2.2.2.2.2.2 C hC))
  cases hcls.1.symm.trans f1
  cases k3.symm.trans f2
  obtain ⟨kC, hkC, -⟩ := hcls.2
  have hlt : x.toNatClampNeg < n := by rw [h2]; exact hj
  refine W.aast hx0 hb hAt.2 (fun q h => by cases h) (fun h => by cases h) k1 k2 rfl hkE ⟨fun q => hin (Or.inl q), by show _ < (arrV _ _ _).slots.size; rw [arrV_size]; exact hlt⟩ g1 (fun q h => by rw [g3] at h; cases h) (by rw [g2]; exact hkC) (by rw [g2]; exact f3) rfl rfl hdg fun H1 e z oq => ?_
  refine kk H1 lsA (hR.put hw ?_ oq hw') hL _ (hS.put z oq hAt.1)
  show H1[ad i]? = some (vp_cell _ _)
  rw [e, h2]
  show some ((vp_cell _ _).setSlot _ _) = _
  rw [vp_cell_q, vp_cell_q, arrV_store]
  congr 2
  funext q
  by_cases hq : q = j
  · subst hq
    simp [updV, va_up, va_rf]
  · simp [updV, va_up, hq]
/-- a seat is put into the row of seats -/
theorem z_aast5 (O : zOK G l own cc nL ret ws R mc ms et PQ PX ini X) {i n b : Nat} {f : Nat → Option Nat} {x : Int32} {w' : zH} {fs : List Value} (hdg : decode cc pc = .ok (.aastore, 1)) (hw : w i = some (.inl (5, (n, .inr (.inr (.inr (.inr f))))))) (hb0 : w b = some (.inr (7, fs))) (j : Nat) (hx : x = nI j) (hj : j < n) (hn : n < 2 ^ 31) (hw' : ∀ k, w' k = if k = i then some (.inl (5, (n, .inr (.inr (.inr (.inr (va_up f j (some (ad b))))))))) else w k)
    (kk : zV G X nL kc ks (pc + 1) lsv rest w' ad) : zV G X nL kc ks pc lsv (.ref (ad b) :: .int x :: .ref (ad i) :: rest) w ad := by
  obtain ⟨p, e, s, m, args, below, meth, c, hx0, hb, hr, hts, hown, hlocks, hml, het, hini, hbase, hK, hSt, hfl, rfl⟩ := O
  intro H lsA hR hL locs hS
  obtain ⟨hin, h2⟩ := z_in hx hj hn
  have hAt := hR.1 i _ hw
  obtain ⟨r', hr', cellV, g1, g2, g3, -⟩ := (hR.1 b _ hb0).2
  have hcls := (hK.1 7 _ rfl).2
  obtain ⟨kA, comp, k1, k2, k3, -⟩ := (hK.2 5 _ (zTys_get G (by decide))).2
  have hcomp : comp = G.1.1 7 := Option.some.inj (k3.symm.trans hcls.1)
  subst hcomp
  obtain ⟨kC, hkC, -⟩ := hcls.2
  have hlt : x.toNatClampNeg < n := by rw [h2]; exact hj
  refine W.aast hx0 hb hAt.2 (fun q h => by cases h) (fun h => by cases h) k1 k2 rfl hkC ⟨fun q => hin (Or.inl q), by show _ < (arrV _ _ _).slots.size; rw [arrV_size]; exact hlt⟩ g1 (fun q h => by rw [g3] at h; cases h) (by rw [g2]; exact hkC) (by rw [g2]; exact va_assign hcls) rfl rfl hdg fun H1 e z oq => ?_
  refine kk H1 lsA (hR.put hw ?_ oq hw') hL _ (hS.put z oq hAt.1)
  show H1[ad i]? = some (vp_cell _ _)
  rw [e, h2]
  show some ((vp_cell _ _).setSlot _ _) = _
  rw [vp_cell_q, vp_cell_q, arrV_store]
  congr 2
  funext q
  by_cases hq : q = j
  · subst hq
    simp [updV, va_up, va_rf]
  · simp [updV, va_up, hq]
theorem z_aastN (O : zOK G l own cc nL ret ws R mc ms et PQ PX ini X) {i n : Nat} {f : Nat → Option Nat} {x : Int32} {w' : zH} (hdg : decode cc pc = .ok (.aastore, 1)) (hw : w i = some (.inl (6, (n, .inr (.inr (.inr (.inr f))))))) (j : Nat) (hx : x = nI j) (hj : j < n) (hn : n < 2 ^ 31) (hw' : ∀ k, w' k = if k = i then some (.inl (6, (n, .inr (.inr (.inr (.inr (va_up f j none))))))) else w k)
    (kk : zV G X nL kc ks (pc + 1) lsv rest w' ad) : zV G X nL kc ks pc lsv (.null :: .int x :: .ref (ad i) :: rest) w ad := by
  obtain ⟨p, e, s, m, args, below, meth, c, hx0, hb, hr, hts, hown, hlocks, hml, het, hini, hbase, hK, hSt, hfl, rfl⟩ := O
  intro H lsA hR hL locs hS
  obtain ⟨hin, h2⟩ := z_in hx hj hn
  have hAt := hR.1 i _ hw
  refine va_WaastN (C := "java/lang/Object") hx0 hb hAt.2 ((hK.2 6 _ (zTys_get G (by decide))).1 n (fun j => va_rf (f j))) (fun h => by cases h) (by show ¬ (x < 0 ∨ (arrV _ _ _).slots.size ≤ _); rw [arrV_size]; exact hin) rfl rfl hdg fun H1 e z oq => ?_
  refine kk H1 lsA (hR.put hw ?_ oq hw') hL _ (hS.put z oq hAt.1)
  show H1[ad i]? = some (vp_cell _ _)
  rw [e, h2]
  show some ((vp_cell _ _).setSlot _ _) = _
  rw [vp_cell_q, vp_cell_q, arrV_store]
  congr 2
  funext q
  by_cases hq : q = j
  · subst hq
    simp [updV, va_up, va_rf]
  · simp [updV, va_up, hq]
/-- the lists' shared empty array -/
theorem z_empty (O : zOK G l own cc nL ret ws R mc ms et PQ PX ini X) {index : Nat} (hl : Cond.fieldLink own index "java/util/ArrayList" "DEFAULTCAPACITY_EMPTY_ELEMENTDATA" "[Ljava/lang/Object;" ∈ ws) (hdg : decode cc pc = .ok (.getstatic index, 3))
    (kk : zV G X nL kc ks (pc + 3) lsv (.ref G.2.2.2.1 :: rest) w ad) : zV G X nL kc ks pc lsv rest w ad := by
  obtain ⟨p, e, s, m, args, below, meth, c, hx0, hb, hr, hts, hown, hlocks, hml, het, hini, hbase, hK, hSt, hfl, rfl⟩ := O
  intro H lsA hR hL locs hS
  exact va_gets hx0 hb hSt.1.2.2.1 hS hown (hts _ hl) (fun _ h => h) hdg (kk H lsA hR hL locs hS)
theorem z_alenE (O : zOK G l own cc nL ret ws R mc ms et PQ PX ini X) (hdg : decode cc pc = .ok (.arraylength, 1))
    (kk : zV G X nL kc ks (pc + 1) lsv (.int 0 :: rest) w ad) : zV G X nL kc ks pc lsv (.ref G.2.2.2.1 :: rest) w ad := by
  obtain ⟨p, e, s, m, args, below, meth, c, hx0, hb, hr, hts, hown, hlocks, hml, het, hini, hbase, hK, hSt, hfl, rfl⟩ := O
  intro H lsA hR hL locs hS
  obtain ⟨cell, h1, h2, h3, h4, h5, -, h7⟩ := va_T.kept hSt.1.2.2.2 (fun a h1 h2 => hS.2.1 a h1 h2)
  exact W.alen (n := 0) hx0 hb h1 h2 (by rw [h5]; rfl) rfl rfl hdg (kk H lsA hR hL locs hS)
/-- a field that a superclass declares, by the class's own name -/
theorem z_getS (O : zOK G l own cc nL ret ws R mc ms et PQ PX ini X) {C ref : String} {T : u_T} {N ci i fk index : Nat} {fs : List Value} {v : Value} (hin : ∀ x ∈ u_ws C T N, x ∈ ws) (hc : vwCl[ci]? = some (C, T, N)) (hk : fk < N) (hlink : Cond.fieldLink own index ref (T fk).2.1 (T fk).2.2.1 ∈ ws) (hsm : Cond.sameField ref (T fk).1 (T fk).2.1 (T fk).2.2.1 ∈ ws) (hdg : decode cc pc = .ok (.getfield index, 3)) (hw : w i = some (.inr (ci, fs))) (hv : fs[fk]? = some v)
    (kk : zV G X nL kc ks (pc + 3) lsv (v :: rest) w ad) : zV G X nL kc ks pc lsv (.ref (ad i) :: rest) w ad := by
  obtain ⟨p, e, s, m, args, below, meth, c, hx, hb, hr, hts, hown, hlocks, hml, het, hini, hbase, hK, hSt, hfl, rfl⟩ := O
  intro H lsA hR hL locs hS
  exact va_get (ref := ref) hx hb hts hin hown hK (zP1 (hR.1 i _ hw).2) 0 (fs := fs) rfl hc fk hk (hts _ hlink) (fun y h => u_same (hts _ hsm) y h) hv hdg (kk H lsA hR hL locs hS)
theorem z_putS (O : zOK G l own cc nL ret ws R mc ms et PQ PX ini X) {C ref : String} {T : u_T} {N ci i fk index : Nat} {fs : List Value} {v : Value} {w' : zH} (hin : ∀ x ∈ u_ws C T N, x ∈ ws) (ty0 : Nat → FieldType) (hty : ∀ k, k < N → parseFieldDescriptor (T k).2.2.1 = some (ty0 k)) (hnm : ∀ a, a < N → ∀ b, b < N → a ≠ b → (T a).2.1 ≠ (T b).2.1) (hc : vwCl[ci]? = some (C, T, N)) (hk : fk < N) (hlink : Cond.fieldLink own index ref (T fk).2.1 (T fk).2.2.1 ∈ ws) (hsm : Cond.sameField ref (T fk).1 (T fk).2.1 (T fk).2.2.1 ∈ ws) (hfin : (T fk).2.2.2 = false) (hdg : decode cc pc = .ok (.putfield index, 3)) (hn : narrow (ty0 fk) v = v) (hfit : fits (ty0 fk) v = true)
    (hw : w i = some (.inr (ci, fs))) (hl : fk < fs.length) (hw' : ∀ j, w' j = if j = i then some (.inr (ci, fs.set fk v)) else w j) (kk : zV G X nL kc ks (pc + 3) lsv rest w' ad) : zV G X nL kc ks pc lsv (v :: .ref (ad i) :: rest) w ad := by
  obtain ⟨p, e, s, m, args, below, meth, c, hx, hb, hr, hts, hown, hlocks, hml, het, hini, hbase, hK, hSt, hfl, rfl⟩ := O
  intro H lsA hR hL locs hS
  have hap := va_apart (own := own) hts hin ty0 hty hnm hK hc
  have hAt := hR.1 i _ hw
  obtain ⟨r, h1, cell, q1, q2, q3, q4⟩ := hAt.2
  have hr2 : r = (C, T, N) := Option.some.inj (h1.symm.trans hc)
  subst hr2
  obtain ⟨hSl, hfc, kC, hkC, hkind⟩ := hK.1 ci _ hc
  obtain ⟨cf, kf, fi, f, hi, hsl⟩ := hSl fk hk
  have hlay := hts _ (hin _ (u_in_lay hk))
  unfold u_lay at hlay
  rw [if_neg (by rw [hfin]; decide)] at hlay
  have hst := (u_facts hfc hkC (u_lays hts hin hk) hi).1
  have h6 := u_store hfc hkC hkind hlay hi (hty fk hk) hn hfit
  refine W.putK hx hb (f := f) ⟨hown, hts _ hlink, ⟨_, _, _, u_same (hts _ hsm) _ hi⟩, hst⟩ (by rw [q2]; exact h6) q1 q3 (by rw [hsl]; exact k2_hasslot (q4 fk hk)) rfl rfl hdg fun H' e1 e2 e3 => ?_
  rw [hsl] at e1 ⊢
  exact kk H' lsA (hR.put (e := .inr (ci, fs.set fk v)) hw ⟨_, hc, t_OB.to (V := updV (vp_V fs) fk v) ⟨_, e1, q2, q3, t_set q4 hap hk v⟩ (fun j _ => vp_updV_set hl v j)⟩ e3 hw') hL _ (hS.put e2 e3 hAt.1)
/-- the class object of rows of objects, named and asked for -/
theorem z_ldcM (O : zOK G l own cc nL ret ws R mc ms et PQ PX ini X) {index : Nat} (hcl : Cond.classLink own index "[Ljava/lang/Object;" ∈ ws) (hdg : decode cc pc = .ok (.ldc index, 2))
    (kk : zV G X nL kc ks (pc + 2) lsv (.ref G.2.2.2.2 :: rest) w ad) : zV G X nL kc ks pc lsv rest w ad := by
  obtain ⟨p, e, s, m, args, below, meth, c, hx0, hb, hr, hts, hown, hlocks, hml, het, hini, hbase, hK, hSt, hfl, rfl⟩ := O
  intro H lsA hR hL locs hS
  exact va_ldcM hx0 hb hown (hts _ hcl) hSt.2.2.2.2.2.1 hdg (kk H lsA hR hL locs hS)
theorem z_getC (O : zOK G l own cc nL ret ws R mc ms et PQ PX ini X) {index i : Nat} {a : vp_A} (hm : Cond.methodLink own index ⟨"java/lang/Object", "getClass", "()Ljava/lang/Class;"⟩ ∈ ws) (hsel : Cond.selects "[Ljava/lang/Object;" ⟨"java/lang/Object", "getClass", "()Ljava/lang/Class;"⟩ ⟨"java/lang/Object", "getClass", "()Ljava/lang/Class;"⟩ ∈ ws) (hinst : Cond.instanceMethod ⟨"java/lang/Object", "getClass", "()Ljava/lang/Class;"⟩ ∈ ws) (hnat : Cond.native ⟨"java/lang/Object", "getClass", "()Ljava/lang/Class;"⟩ ∈ ws) (hw : w i = some (.inl (6, a))) (hf : 1 ≤ R.frames) (hlo : (rest.map fun v => v.category).sum + 14 ≤ R.locals) (hdg : decode cc pc = .ok (.invokevirtual index, 3))
    (kk : zV G X nL kc ks (pc + 3) lsv (.ref G.2.2.2.2 :: rest) w ad) : zV G X nL kc ks pc lsv (.ref (ad i) :: rest) w ad := by
  obtain ⟨p, e, s, m, args, below, meth, c, hx0, hb, hr, hts, hown, hlocks, hml, het, hini, hbase, hK, hSt, hfl, rfl⟩ := O
  intro H lsA hR hL locs hS
  have hc1 : H[ad i]? = some (vp_cell (G.2.1 6) a) := (hR.1 i _ hw).2
  have h9 := (hK.2 6 _ (zTys_get G (by decide))).2
  refine va_getC hx0 hb (hml.trans hL.1.symm) hown (hts _ hm) (va_Dc.use hSt.2.2.2.2.2.2.1) (hts _ hsel) (hts _ hinst) (hts _ hnat) hSt.2.2.2.2.2.1 ⟨_, hc1, ?_, ?_⟩ hf hlo hdg (kk H lsA hR hL locs hS)
  · obtain ⟨n, f | f | f | f | f⟩ := a <;> rfl
  · have e9 : (vp_cell (G.2.1 6) a).cls = G.2.1 6 := by obtain ⟨n, f | f | f | f | f⟩ := a <;> rfl
    rw [e9]
    exact va_nmO h9 rfl
/-- cells are copied from one array of any to another -/
theorem z_copy (O : zOK G l own cc nL ret ws R mc ms et PQ PX ini X) {index i0 i1 n0 n1 n : Nat} {f g : Nat → Option Nat} {w' : zH} {C : String} {T : u_T} {N ci : Nat} (hC : C ∈ zObs) (hc : vwCl[ci]? = some (C, T, N)) (hm : Cond.methodLink own index arraycopyName ∈ ws) (hnat : Cond.native arraycopyName ∈ ws) (hstat : Cond.static arraycopyName ∈ ws) (hini0 : Cond.initialized "java/lang/System" ∈ ws) (hw0 : w i0 = some (.inl (6, (n0, .inr (.inr (.inr (.inr f))))))) (hw1 : w i1 = some (.inl (6, (n1, .inr (.inr (.inr (.inr g)))))))
    (hn0 : n ≤ n0) (hn1 : n ≤ n1) (hn : n < 2 ^ 30) (hel : ∀ i : Nat, i < n → ∃ b fs, f i = some (ad b) ∧ w b = some (.inr (ci, fs))) (hw' : ∀ k, w' k = if k = i1 then some (.inl (6, (n1, .inr (.inr (.inr (.inr (fun k => if k < n then f k else g k))))))) else w k) (hf : 1 ≤ R.frames) (hlo : (rest.map fun v => v.category).sum + (nativeFrameWords "java/lang/System" "arraycopy" 5 + 11) ≤ R.locals) (hdg : decode cc pc = .ok (.invokestatic index, 3))
    (kk : zV G X nL kc ks (pc + 3) lsv rest w' ad) : zV G X nL kc ks pc lsv (.int (nI n) :: .int 0 :: .ref (ad i1) :: .int 0 :: .ref (ad i0) :: rest) w ad := by
  obtain ⟨p, e, s, m, args, below, meth, c, hx0, hb, hr, hts, hown, hlocks, hml, het, hini, hbase, hK, hSt, hfl, rfl⟩ := O
  intro H lsA hR hL locs hS T hT Xs
  have hc0 : H[ad i0]? = some (vp_cell (G.2.1 6) (n0, .inr (.inr (.inr (.inr f))))) := (hR.1 i0 _ hw0).2
  have hAt := hR.1 i1 _ hw1
  have hc1 : H[ad i1]? = some (vp_cell (G.2.1 6) (n1, .inr (.inr (.inr (.inr g))))) := hAt.2
  obtain ⟨-, k0, hk0, cm0, hkk0⟩ := (hK.2 6 _ (zTys_get G (by decide))).1 n0 (fun j => va_rf (f j))
  obtain ⟨-, k1, hk1, cm1, hkk1⟩ := (hK.2 6 _ (zTys_get G (by decide))).1 n1 (fun j => va_rf (g j))
  have t0 : (nI n).toInt = (n : Int) := nI_toInt (by omega)
  have c0' : (nI n).toNatClampNeg = n := nI_clamp (by omega)
  have z0 : (0 : Int32).toNatClampNeg = 0 := by decide
  have z1 : (0 : Int32).toInt = 0 := by decide
  obtain ⟨vm', X', step⟩ := Xs.arraycopy hx0 hown (hts _ hm) (hts _ hnat) (hts _ hstat) (hts _ hini0) (src := ad i0) (dst := ad i1) (cs := vp_cell (G.2.1 6) (n0, .inr (.inr (.inr (.inr f))))) (cd := vp_cell (G.2.1 6) (n1, .inr (.inr (.inr (.inr g))))) (srcPos := 0) (destPos := 0) (n := nI n) (by rw [hT]; exact hc0) (by rw [hT]; exact hc1)
    (fun _ h => by cases h) (fun _ h => by cases h) (fun h => by cases h) (fun h => by cases h) hk0 hk1 hkk0 hkk1 rfl (by decide) (by decide) (nI_pos (by omega))
    (by rw [z1, t0]; show ¬ _ > ((arrV (G.2.1 6) n0 (fun j => va_rf (f j))).slots.size : Int); rw [arrV_size]; omega)
    (by rw [z1, t0]; show ¬ _ > ((arrV (G.2.1 6) n1 (fun j => va_rf (g j))).slots.size : Int); rw [arrV_size]; omega)
    (fun vm₁ hal i hi => by
      rw [c0'] at hi
      rw [z0, Nat.zero_add]
      obtain ⟨b, fs, hfb, hwb⟩ := hel i hi
      have e : (vp_cell (G.2.1 6) (n0, .inr (.inr (.inr (.inr f))))).slots.getD i .null = va_rf (f i) := by
        show (arrV (G.2.1 6) n0 (fun j => va_rf (f j))).slots.getD _ _ = _
        rw [Array.getD_eq_getD_getElem?, arrV_read _ _ (by omega)]
        rfl
      rw [e, hfb]
      obtain ⟨r', hr', cellV, g1, g2, g3, -⟩ := (hR.1 b _ hwb).2
      have hcls := (hK.1 ci _ hc).2
      obtain ⟨kA, comp, r1, r2, r3, -⟩ := (hK.2 6 _ (zTys_get G (by decide))).2
      cases hk1.symm.trans r1
      cases hkk1.symm.trans r2
      obtain ⟨c9, t1, f1, f2, f3⟩ := Cond.castable_spec (va_Nw.use (A := args) rfl (hSt.2.2.2.2.2.2.2.2.2.2 C hC))
      cases hcls.1.symm.trans f1
      cases r3.symm.trans f2
      obtain ⟨kC, hkC, -⟩ := Vm.findClass_spec hcls.1
      obtain ⟨kE, hkE, -⟩ := Vm.findClass_spec r3
      obtain ⟨kC', hkC', -⟩ := hal.2.2 _ _ hkC
      obtain ⟨kE', hkE', -⟩ := hal.2.2 _ _ hkE
      refine ⟨rfl, cellV, (show T.heap[ad b]? = some cellV by rw [hT]; exact g1), (fun q h => by rw [g3] at h; cases h), ⟨kC', by rw [g2]; exact hkC'⟩, ?_, ?_⟩
      · exact ⟨kE', hkE'⟩
      · show vm₁.assignable _ _ = true
        rw [hal.assignable, g2]
        exact f3)
    (g := F0 m pc lsA (.int (nI n) :: .int 0 :: .ref (ad i1) :: .int 0 :: .ref (ad i0) :: rest)) rfl (by show lsA.size = _; rw [hL.1, hml]) (rest := rest) rfl (by rw [hb]; exact hdg) hf (by show 2 * 0 + _ + _ ≤ _; omega)
  have e1 : copied (vp_cell (G.2.1 6) (n0, .inr (.inr (.inr (.inr f))))) (vp_cell (G.2.1 6) (n1, .inr (.inr (.inr (.inr g))))) 0 0 (nI n) = vp_cell (G.2.1 6) (n1, .inr (.inr (.inr (.inr (fun k => if k < n then f k else g k))))) := by
    have h4 : (0 : Int32).toNatClampNeg + (nI n).toNatClampNeg ≤ n0 := by rw [z0, c0']; omega
    rw [vp_cell_q, vp_cell_q, vp_cell_q]
    refine (va_copied (fun z => va_rf z) (G.2.1 6) (G.2.1 6) f g h4).trans ?_
    rw [z0, c0']
    congr 2
    funext k
    unfold va_cpy
    by_cases hk : k < n <;> simp [hk]
  rw [e1] at X' step
  have hl : ad i1 < H.size := (Array.getElem?_eq_some_iff.mp hc1).1
  generalize hcell : vp_cell (G.2.1 6) (n1, .inr (.inr (.inr (.inr (fun k => if k < n then f k else g k))))) = cell9 at X' step
  have hheap : ((T.setVm vm').setCell (ad i1) cell9).heap = H.setIfInBounds (ad i1) cell9 := by rw [← hT]; rfl
  have oq : ∀ q : Nat, q ≠ ad i1 → (H.setIfInBounds (ad i1) cell9)[q]? = H[q]? := fun q hq => by simp [Array.getElem?_setIfInBounds, Ne.symm hq]
  obtain ⟨t, a1, b1⟩ := kk (H.setIfInBounds (ad i1) cell9) lsA (hR.put hw1 (e := .inl (6, (n1, .inr (.inr (.inr (.inr (fun k => if k < n then f k else g k))))))) (show (H.setIfInBounds (ad i1) cell9)[ad i1]? = some (vp_cell (G.2.1 6) _) by rw [hcell]; simp [Array.getElem?_setIfInBounds, hl]) oq hw') hL _ ⟨by simp; exact hS.1, fun q g1 g2 => by
      rw [oq q (fun e => g2 (by rw [e]; exact hAt.1))]
      exact hS.2.1 q g1 g2, fun q hq => by
      rcases List.mem_append.mp hq with h | h
      · exact hS.2.2 q h
      · obtain ⟨z, -, hz⟩ := List.mem_map.mp h
        rw [← hz]
        exact hAt.1⟩ _ hheap X'
  exact ⟨t, step t a1, b1⟩
end ZROWS2
end
section
section ZROWS3
variable {G : zG} {l : Launch} {own : String} {cc : ByteArray} {nL : Nat} {ret : Option FieldType} {ws : List Cond} {R : Room} {mc ms : Nat} {et : List ExceptionTableEntry} {PQ : Option Value → zH → (Nat → Nat) → Prop} {PX : String → zH → (Nat → Nat) → Prop} {ini : Prop} {X : zXT} {kc ks pc : Nat} {lsv : List (Nat × Value)} {rest : List Value} {w : zH} {ad : Nat → Nat}
theorem z_ldcw (O : zOK G l own cc nL ret ws R mc ms et PQ PX ini X) {i : Nat} {v : Int32} (hc : Cond.constant own i v ∈ ws) (hdg : decode cc pc = .ok (.ldc_w i, 3)) (kk : zV G X nL kc ks (pc + 3) lsv (.int v :: rest) w ad) : zV G X nL kc ks pc lsv rest w ad := by
  obtain ⟨p, e, s, m, args, below, meth, c, hx, hb, -, hts, hown, -, -, -, -, -, -, -, -, rfl⟩ := O
  intro H lsA hR hL locs hS
  exact lv_ldcw hx hb hown (hts _ hc) hdg (kk H lsA hR hL locs hS)
theorem z_ldc2 (O : zOK G l own cc nL ret ws R mc ms et PQ PX ini X) {i : Nat} {v : Int64} (hc : Cond.constantLong own i v ∈ ws) (hdg : decode cc pc = .ok (.ldc2_w i, 3)) (kk : zV G X nL kc ks (pc + 3) lsv (.long v :: rest) w ad) : zV G X nL kc ks pc lsv rest w ad := by
  obtain ⟨p, e, s, m, args, below, meth, c, hx, hb, -, hts, hown, -, -, -, -, -, -, -, -, rfl⟩ := O
  intro H lsA hR hL locs hS
  exact lv_ldc2 hx hb hown (hts _ hc) hdg (kk H lsA hR hL locs hS)
end ZROWS3
end
section
theorem dJx00060_init_a7421_0 : decode cJx00060_init_a7421 0 = .ok (.aload_n 0, 1) := by decide +kernel
theorem dJx00060_init_a7421_1 : decode cJx00060_init_a7421 1 = .ok (.aload_n 1, 1) := by decide +kernel
theorem dJx00060_init_a7421_2 : decode cJx00060_init_a7421 2 = .ok (.invokespecial 7, 3) := by decide +kernel
theorem dJx00060_init_a7421_5 : decode cJx00060_init_a7421 5 = .ok (.return_, 1) := by decide +kernel
theorem dJ6_bitCount_0f7a4_0 : decode cJ6_bitCount_0f7a4 0 = .ok (.iload_n 0, 1) := by decide +kernel
theorem dJ6_bitCount_0f7a4_1 : decode cJ6_bitCount_0f7a4 1 = .ok (.iload_n 0, 1) := by decide +kernel
theorem dJ6_bitCount_0f7a4_2 : decode cJ6_bitCount_0f7a4 2 = .ok (.iconst 1, 1) := by decide +kernel
theorem dJ6_bitCount_0f7a4_3 : decode cJ6_bitCount_0f7a4 3 = .ok (.iushr, 1) := by decide +kernel
theorem dJ6_bitCount_0f7a4_4 : decode cJ6_bitCount_0f7a4 4 = .ok (.ldc_w 265, 3) := by decide +kernel
theorem dJ6_bitCount_0f7a4_7 : decode cJ6_bitCount_0f7a4 7 = .ok (.iand, 1) := by decide +kernel
theorem dJ6_bitCount_0f7a4_8 : decode cJ6_bitCount_0f7a4 8 = .ok (.isub, 1) := by decide +kernel
theorem dJ6_bitCount_0f7a4_9 : decode cJ6_bitCount_0f7a4 9 = .ok (.istore_n 0, 1) := by decide +kernel
theorem dJ6_bitCount_0f7a4_10 : decode cJ6_bitCount_0f7a4 10 = .ok (.iload_n 0, 1) := by decide +kernel
theorem dJ6_bitCount_0f7a4_11 : decode cJ6_bitCount_0f7a4 11 = .ok (.ldc_w 266, 3) := by decide +kernel
theorem dJ6_bitCount_0f7a4_14 : decode cJ6_bitCount_0f7a4 14 = .ok (.iand, 1) := by decide +kernel
theorem dJ6_bitCount_0f7a4_15 : decode cJ6_bitCount_0f7a4 15 = .ok (.iload_n 0, 1) := by decide +kernel
theorem dJ6_bitCount_0f7a4_16 : decode cJ6_bitCount_0f7a4 16 = .ok (.iconst 2, 1) := by decide +kernel
theorem dJ6_bitCount_0f7a4_17 : decode cJ6_bitCount_0f7a4 17 = .ok (.iushr, 1) := by decide +kernel
theorem dJ6_bitCount_0f7a4_18 : decode cJ6_bitCount_0f7a4 18 = .ok (.ldc_w 266, 3) := by decide +kernel
theorem dJ6_bitCount_0f7a4_21 : decode cJ6_bitCount_0f7a4 21 = .ok (.iand, 1) := by decide +kernel
theorem dJ6_bitCount_0f7a4_22 : decode cJ6_bitCount_0f7a4 22 = .ok (.iadd, 1) := by decide +kernel
theorem dJ6_bitCount_0f7a4_23 : decode cJ6_bitCount_0f7a4 23 = .ok (.istore_n 0, 1) := by decide +kernel
theorem dJ6_bitCount_0f7a4_24 : decode cJ6_bitCount_0f7a4 24 = .ok (.iload_n 0, 1) := by decide +kernel
theorem dJ6_bitCount_0f7a4_25 : decode cJ6_bitCount_0f7a4 25 = .ok (.iload_n 0, 1) := by decide +kernel
theorem dJ6_bitCount_0f7a4_26 : decode cJ6_bitCount_0f7a4 26 = .ok (.iconst 4, 1) := by decide +kernel
theorem dJ6_bitCount_0f7a4_27 : decode cJ6_bitCount_0f7a4 27 = .ok (.iushr, 1) := by decide +kernel
theorem dJ6_bitCount_0f7a4_28 : decode cJ6_bitCount_0f7a4 28 = .ok (.iadd, 1) := by decide +kernel
theorem dJ6_bitCount_0f7a4_29 : decode cJ6_bitCount_0f7a4 29 = .ok (.ldc_w 267, 3) := by decide +kernel
theorem dJ6_bitCount_0f7a4_32 : decode cJ6_bitCount_0f7a4 32 = .ok (.iand, 1) := by decide +kernel
theorem dJ6_bitCount_0f7a4_33 : decode cJ6_bitCount_0f7a4 33 = .ok (.istore_n 0, 1) := by decide +kernel
theorem dJ6_bitCount_0f7a4_34 : decode cJ6_bitCount_0f7a4 34 = .ok (.iload_n 0, 1) := by decide +kernel
theorem dJ6_bitCount_0f7a4_35 : decode cJ6_bitCount_0f7a4 35 = .ok (.iload_n 0, 1) := by decide +kernel
theorem dJ6_bitCount_0f7a4_36 : decode cJ6_bitCount_0f7a4 36 = .ok (.bipush 8, 2) := by decide +kernel
theorem dJ6_bitCount_0f7a4_38 : decode cJ6_bitCount_0f7a4 38 = .ok (.iushr, 1) := by decide +kernel
theorem dJ6_bitCount_0f7a4_39 : decode cJ6_bitCount_0f7a4 39 = .ok (.iadd, 1) := by decide +kernel
theorem dJ6_bitCount_0f7a4_40 : decode cJ6_bitCount_0f7a4 40 = .ok (.istore_n 0, 1) := by decide +kernel
theorem dJ6_bitCount_0f7a4_41 : decode cJ6_bitCount_0f7a4 41 = .ok (.iload_n 0, 1) := by decide +kernel
theorem dJ6_bitCount_0f7a4_42 : decode cJ6_bitCount_0f7a4 42 = .ok (.iload_n 0, 1) := by decide +kernel
theorem dJ6_bitCount_0f7a4_43 : decode cJ6_bitCount_0f7a4 43 = .ok (.bipush 16, 2) := by decide +kernel
theorem dJ6_bitCount_0f7a4_45 : decode cJ6_bitCount_0f7a4 45 = .ok (.iushr, 1) := by decide +kernel
theorem dJ6_bitCount_0f7a4_46 : decode cJ6_bitCount_0f7a4 46 = .ok (.iadd, 1) := by decide +kernel
theorem dJ6_bitCount_0f7a4_47 : decode cJ6_bitCount_0f7a4 47 = .ok (.istore_n 0, 1) := by decide +kernel
theorem dJ6_bitCount_0f7a4_48 : decode cJ6_bitCount_0f7a4 48 = .ok (.iload_n 0, 1) := by decide +kernel
theorem dJ6_bitCount_0f7a4_49 : decode cJ6_bitCount_0f7a4 49 = .ok (.bipush 63, 2) := by decide +kernel
theorem dJ6_bitCount_0f7a4_51 : decode cJ6_bitCount_0f7a4 51 = .ok (.iand, 1) := by decide +kernel
theorem dJ6_bitCount_0f7a4_52 : decode cJ6_bitCount_0f7a4 52 = .ok (.ireturn, 1) := by decide +kernel
theorem dJ9_max_7cf53_0 : decode cJ9_max_7cf53 0 = .ok (.iload_n 0, 1) := by decide +kernel
theorem dJ9_max_7cf53_1 : decode cJ9_max_7cf53 1 = .ok (.iload_n 1, 1) := by decide +kernel
theorem dJ9_max_7cf53_2 : decode cJ9_max_7cf53 2 = .ok (.if_icmp .lt 7, 3) := by decide +kernel
theorem dJ9_max_7cf53_5 : decode cJ9_max_7cf53 5 = .ok (.iload_n 0, 1) := by decide +kernel
theorem dJ9_max_7cf53_6 : decode cJ9_max_7cf53 6 = .ok (.goto 4, 3) := by decide +kernel
theorem dJ9_max_7cf53_9 : decode cJ9_max_7cf53 9 = .ok (.iload_n 1, 1) := by decide +kernel
theorem dJ9_max_7cf53_10 : decode cJ9_max_7cf53 10 = .ok (.ireturn, 1) := by decide +kernel
theorem dJ9_min_7cf53_0 : decode cJ9_min_7cf53 0 = .ok (.iload_n 0, 1) := by decide +kernel
theorem dJ9_min_7cf53_1 : decode cJ9_min_7cf53 1 = .ok (.iload_n 1, 1) := by decide +kernel
theorem dJ9_min_7cf53_2 : decode cJ9_min_7cf53 2 = .ok (.if_icmp .gt 7, 3) := by decide +kernel
theorem dJ9_min_7cf53_5 : decode cJ9_min_7cf53 5 = .ok (.iload_n 0, 1) := by decide +kernel
theorem dJ9_min_7cf53_6 : decode cJ9_min_7cf53 6 = .ok (.goto 4, 3) := by decide +kernel
theorem dJ9_min_7cf53_9 : decode cJ9_min_7cf53 9 = .ok (.iload_n 1, 1) := by decide +kernel
theorem dJ9_min_7cf53_10 : decode cJ9_min_7cf53 10 = .ok (.ireturn, 1) := by decide +kernel
theorem dJxa1e45_init_da8c8_0 : decode cJxa1e45_init_da8c8 0 = .ok (.aload_n 0, 1) := by decide +kernel
theorem dJxa1e45_init_da8c8_1 : decode cJxa1e45_init_da8c8 1 = .ok (.invokespecial 1, 3) := by decide +kernel
theorem dJxa1e45_init_da8c8_4 : decode cJxa1e45_init_da8c8 4 = .ok (.return_, 1) := by decide +kernel
theorem dJxc12de_init_da8c8_0 : decode cJxc12de_init_da8c8 0 = .ok (.aload_n 0, 1) := by decide +kernel
theorem dJxc12de_init_da8c8_1 : decode cJxc12de_init_da8c8 1 = .ok (.invokespecial 1, 3) := by decide +kernel
theorem dJxc12de_init_da8c8_4 : decode cJxc12de_init_da8c8 4 = .ok (.aload_n 0, 1) := by decide +kernel
theorem dJxc12de_init_da8c8_5 : decode cJxc12de_init_da8c8 5 = .ok (.iconst 0, 1) := by decide +kernel
theorem dJxc12de_init_da8c8_6 : decode cJxc12de_init_da8c8 6 = .ok (.putfield 7, 3) := by decide +kernel
theorem dJxc12de_init_da8c8_9 : decode cJxc12de_init_da8c8 9 = .ok (.return_, 1) := by decide +kernel
theorem dJx4a65c_init_da8c8_0 : decode cJx4a65c_init_da8c8 0 = .ok (.aload_n 0, 1) := by decide +kernel
theorem dJx4a65c_init_da8c8_1 : decode cJx4a65c_init_da8c8 1 = .ok (.invokespecial 1, 3) := by decide +kernel
theorem dJx4a65c_init_da8c8_4 : decode cJx4a65c_init_da8c8 4 = .ok (.aload_n 0, 1) := by decide +kernel
theorem dJx4a65c_init_da8c8_5 : decode cJx4a65c_init_da8c8 5 = .ok (.getstatic 39, 3) := by decide +kernel
theorem dJx4a65c_init_da8c8_8 : decode cJx4a65c_init_da8c8 8 = .ok (.putfield 9, 3) := by decide +kernel
theorem dJx4a65c_init_da8c8_11 : decode cJx4a65c_init_da8c8 11 = .ok (.return_, 1) := by decide +kernel
theorem dJx4a65c_grow_92f84_0 : decode cJx4a65c_grow_92f84 0 = .ok (.aload_n 0, 1) := by decide +kernel
theorem dJx4a65c_grow_92f84_1 : decode cJx4a65c_grow_92f84 1 = .ok (.getfield 9, 3) := by decide +kernel
theorem dJx4a65c_grow_92f84_4 : decode cJx4a65c_grow_92f84 4 = .ok (.arraylength, 1) := by decide +kernel
theorem dJx4a65c_grow_92f84_5 : decode cJx4a65c_grow_92f84 5 = .ok (.istore_n 2, 1) := by decide +kernel
theorem dJx4a65c_grow_92f84_6 : decode cJx4a65c_grow_92f84 6 = .ok (.iload_n 2, 1) := by decide +kernel
theorem dJx4a65c_grow_92f84_7 : decode cJx4a65c_grow_92f84 7 = .ok (.ifCond .gt 13, 3) := by decide +kernel
theorem dJx4a65c_grow_92f84_10 : decode cJx4a65c_grow_92f84 10 = .ok (.aload_n 0, 1) := by decide +kernel
theorem dJx4a65c_grow_92f84_11 : decode cJx4a65c_grow_92f84 11 = .ok (.getfield 9, 3) := by decide +kernel
theorem dJx4a65c_grow_92f84_14 : decode cJx4a65c_grow_92f84 14 = .ok (.getstatic 39, 3) := by decide +kernel
theorem dJx4a65c_grow_92f84_17 : decode cJx4a65c_grow_92f84 17 = .ok (.if_acmp .eq 28, 3) := by decide +kernel
theorem dJx4a65c_grow_92f84_20 : decode cJx4a65c_grow_92f84 20 = .ok (.iload_n 2, 1) := by decide +kernel
theorem dJx4a65c_grow_92f84_21 : decode cJx4a65c_grow_92f84 21 = .ok (.iload_n 1, 1) := by decide +kernel
theorem dJx4a65c_grow_92f84_22 : decode cJx4a65c_grow_92f84 22 = .ok (.iload_n 2, 1) := by decide +kernel
theorem dJx4a65c_grow_92f84_23 : decode cJx4a65c_grow_92f84 23 = .ok (.isub, 1) := by decide +kernel
theorem dJx4a65c_grow_92f84_24 : decode cJx4a65c_grow_92f84 24 = .ok (.iload_n 2, 1) := by decide +kernel
theorem dJx4a65c_grow_92f84_25 : decode cJx4a65c_grow_92f84 25 = .ok (.iconst 1, 1) := by decide +kernel
theorem dJx4a65c_grow_92f84_26 : decode cJx4a65c_grow_92f84 26 = .ok (.ishr, 1) := by decide +kernel
theorem dJx4a65c_grow_92f84_27 : decode cJx4a65c_grow_92f84 27 = .ok (.invokestatic 73, 3) := by decide +kernel
theorem dJx4a65c_grow_92f84_30 : decode cJx4a65c_grow_92f84 30 = .ok (.istore_n 3, 1) := by decide +kernel
theorem dJx4a65c_grow_92f84_31 : decode cJx4a65c_grow_92f84 31 = .ok (.aload_n 0, 1) := by decide +kernel
theorem dJx4a65c_grow_92f84_32 : decode cJx4a65c_grow_92f84 32 = .ok (.aload_n 0, 1) := by decide +kernel
theorem dJx4a65c_grow_92f84_33 : decode cJx4a65c_grow_92f84 33 = .ok (.getfield 9, 3) := by decide +kernel
theorem dJx4a65c_grow_92f84_36 : decode cJx4a65c_grow_92f84 36 = .ok (.iload_n 3, 1) := by decide +kernel
theorem dJx4a65c_grow_92f84_37 : decode cJx4a65c_grow_92f84 37 = .ok (.invokestatic 66, 3) := by decide +kernel
theorem dJx4a65c_grow_92f84_40 : decode cJx4a65c_grow_92f84 40 = .ok (.dup_x1, 1) := by decide +kernel
theorem dJx4a65c_grow_92f84_41 : decode cJx4a65c_grow_92f84 41 = .ok (.putfield 9, 3) := by decide +kernel
theorem dJx4a65c_grow_92f84_44 : decode cJx4a65c_grow_92f84 44 = .ok (.areturn, 1) := by decide +kernel
theorem dJx4a65c_grow_92f84_45 : decode cJx4a65c_grow_92f84 45 = .ok (.aload_n 0, 1) := by decide +kernel
theorem dJx4a65c_grow_92f84_46 : decode cJx4a65c_grow_92f84 46 = .ok (.bipush 10, 2) := by decide +kernel
theorem dJx4a65c_grow_92f84_48 : decode cJx4a65c_grow_92f84 48 = .ok (.iload_n 1, 1) := by decide +kernel
theorem dJx4a65c_grow_92f84_49 : decode cJx4a65c_grow_92f84 49 = .ok (.invokestatic 79, 3) := by decide +kernel
theorem dJx4a65c_grow_92f84_52 : decode cJx4a65c_grow_92f84 52 = .ok (.anewarray 7, 3) := by decide +kernel
theorem dJx4a65c_grow_92f84_55 : decode cJx4a65c_grow_92f84 55 = .ok (.dup_x1, 1) := by decide +kernel
theorem dJx4a65c_grow_92f84_56 : decode cJx4a65c_grow_92f84 56 = .ok (.putfield 9, 3) := by decide +kernel
theorem dJx4a65c_grow_92f84_59 : decode cJx4a65c_grow_92f84 59 = .ok (.areturn, 1) := by decide +kernel
theorem dJx4a65c_grow_d5877_0 : decode cJx4a65c_grow_d5877 0 = .ok (.aload_n 0, 1) := by decide +kernel
theorem dJx4a65c_grow_d5877_1 : decode cJx4a65c_grow_d5877 1 = .ok (.aload_n 0, 1) := by decide +kernel
theorem dJx4a65c_grow_d5877_2 : decode cJx4a65c_grow_d5877 2 = .ok (.getfield 48, 3) := by decide +kernel
theorem dJx4a65c_grow_d5877_5 : decode cJx4a65c_grow_d5877 5 = .ok (.iconst 1, 1) := by decide +kernel
theorem dJx4a65c_grow_d5877_6 : decode cJx4a65c_grow_d5877 6 = .ok (.iadd, 1) := by decide +kernel
theorem dJx4a65c_grow_d5877_7 : decode cJx4a65c_grow_d5877 7 = .ok (.invokevirtual 69, 3) := by decide +kernel
theorem dJx4a65c_grow_d5877_10 : decode cJx4a65c_grow_d5877 10 = .ok (.areturn, 1) := by decide +kernel
theorem dJx4a65c_size_8abf5_0 : decode cJx4a65c_size_8abf5 0 = .ok (.aload_n 0, 1) := by decide +kernel
theorem dJx4a65c_size_8abf5_1 : decode cJx4a65c_size_8abf5 1 = .ok (.getfield 48, 3) := by decide +kernel
theorem dJx4a65c_size_8abf5_4 : decode cJx4a65c_size_8abf5 4 = .ok (.ireturn, 1) := by decide +kernel
theorem dJx4a65c_elementData_915e3_0 : decode cJx4a65c_elementData_915e3 0 = .ok (.aload_n 0, 1) := by decide +kernel
theorem dJx4a65c_elementData_915e3_1 : decode cJx4a65c_elementData_915e3 1 = .ok (.getfield 9, 3) := by decide +kernel
theorem dJx4a65c_elementData_915e3_4 : decode cJx4a65c_elementData_915e3 4 = .ok (.iload_n 1, 1) := by decide +kernel
theorem dJx4a65c_elementData_915e3_5 : decode cJx4a65c_elementData_915e3 5 = .ok (.aaload, 1) := by decide +kernel
theorem dJx4a65c_elementData_915e3_6 : decode cJx4a65c_elementData_915e3 6 = .ok (.areturn, 1) := by decide +kernel
theorem dJx4a65c_get_915e3_0 : decode cJx4a65c_get_915e3 0 = .ok (.iload_n 1, 1) := by decide +kernel
theorem dJx4a65c_get_915e3_1 : decode cJx4a65c_get_915e3 1 = .ok (.aload_n 0, 1) := by decide +kernel
theorem dJx4a65c_get_915e3_2 : decode cJx4a65c_get_915e3 2 = .ok (.getfield 48, 3) := by decide +kernel
theorem dJx4a65c_get_915e3_5 : decode cJx4a65c_get_915e3 5 = .ok (.invokestatic 118, 3) := by decide +kernel
theorem dJx4a65c_get_915e3_8 : decode cJx4a65c_get_915e3 8 = .ok (.pop, 1) := by decide +kernel
theorem dJx4a65c_get_915e3_9 : decode cJx4a65c_get_915e3 9 = .ok (.aload_n 0, 1) := by decide +kernel
theorem dJx4a65c_get_915e3_10 : decode cJx4a65c_get_915e3 10 = .ok (.iload_n 1, 1) := by decide +kernel
theorem dJx4a65c_get_915e3_11 : decode cJx4a65c_get_915e3 11 = .ok (.invokevirtual 123, 3) := by decide +kernel
theorem dJx4a65c_get_915e3_14 : decode cJx4a65c_get_915e3 14 = .ok (.areturn, 1) := by decide +kernel
theorem dJx4a65c_add_72be8_0 : decode cJx4a65c_add_72be8 0 = .ok (.iload_n 3, 1) := by decide +kernel
theorem dJx4a65c_add_72be8_1 : decode cJx4a65c_add_72be8 1 = .ok (.aload_n 2, 1) := by decide +kernel
theorem dJx4a65c_add_72be8_2 : decode cJx4a65c_add_72be8 2 = .ok (.arraylength, 1) := by decide +kernel
theorem dJx4a65c_add_72be8_3 : decode cJx4a65c_add_72be8 3 = .ok (.if_icmp .ne 8, 3) := by decide +kernel
theorem dJx4a65c_add_72be8_6 : decode cJx4a65c_add_72be8 6 = .ok (.aload_n 0, 1) := by decide +kernel
theorem dJx4a65c_add_72be8_7 : decode cJx4a65c_add_72be8 7 = .ok (.invokevirtual 129, 3) := by decide +kernel
theorem dJx4a65c_add_72be8_10 : decode cJx4a65c_add_72be8 10 = .ok (.astore_n 2, 1) := by decide +kernel
theorem dJx4a65c_add_72be8_11 : decode cJx4a65c_add_72be8 11 = .ok (.aload_n 2, 1) := by decide +kernel
theorem dJx4a65c_add_72be8_12 : decode cJx4a65c_add_72be8 12 = .ok (.iload_n 3, 1) := by decide +kernel
theorem dJx4a65c_add_72be8_13 : decode cJx4a65c_add_72be8 13 = .ok (.aload_n 1, 1) := by decide +kernel
theorem dJx4a65c_add_72be8_14 : decode cJx4a65c_add_72be8 14 = .ok (.aastore, 1) := by decide +kernel
theorem dJx4a65c_add_72be8_15 : decode cJx4a65c_add_72be8 15 = .ok (.aload_n 0, 1) := by decide +kernel
theorem dJx4a65c_add_72be8_16 : decode cJx4a65c_add_72be8 16 = .ok (.iload_n 3, 1) := by decide +kernel
theorem dJx4a65c_add_72be8_17 : decode cJx4a65c_add_72be8 17 = .ok (.iconst 1, 1) := by decide +kernel
theorem dJx4a65c_add_72be8_18 : decode cJx4a65c_add_72be8 18 = .ok (.iadd, 1) := by decide +kernel
theorem dJx4a65c_add_72be8_19 : decode cJx4a65c_add_72be8 19 = .ok (.putfield 48, 3) := by decide +kernel
theorem dJx4a65c_add_72be8_22 : decode cJx4a65c_add_72be8 22 = .ok (.return_, 1) := by decide +kernel
theorem dJx4a65c_add_9ea2d_0 : decode cJx4a65c_add_9ea2d 0 = .ok (.aload_n 0, 1) := by decide +kernel
theorem dJx4a65c_add_9ea2d_1 : decode cJx4a65c_add_9ea2d 1 = .ok (.dup, 1) := by decide +kernel
theorem dJx4a65c_add_9ea2d_2 : decode cJx4a65c_add_9ea2d 2 = .ok (.getfield 63, 3) := by decide +kernel
theorem dJx4a65c_add_9ea2d_5 : decode cJx4a65c_add_9ea2d 5 = .ok (.iconst 1, 1) := by decide +kernel
theorem dJx4a65c_add_9ea2d_6 : decode cJx4a65c_add_9ea2d 6 = .ok (.iadd, 1) := by decide +kernel
theorem dJx4a65c_add_9ea2d_7 : decode cJx4a65c_add_9ea2d 7 = .ok (.putfield 63, 3) := by decide +kernel
theorem dJx4a65c_add_9ea2d_10 : decode cJx4a65c_add_9ea2d 10 = .ok (.aload_n 0, 1) := by decide +kernel
theorem dJx4a65c_add_9ea2d_11 : decode cJx4a65c_add_9ea2d 11 = .ok (.aload_n 1, 1) := by decide +kernel
theorem dJx4a65c_add_9ea2d_12 : decode cJx4a65c_add_9ea2d 12 = .ok (.aload_n 0, 1) := by decide +kernel
theorem dJx4a65c_add_9ea2d_13 : decode cJx4a65c_add_9ea2d 13 = .ok (.getfield 9, 3) := by decide +kernel
theorem dJx4a65c_add_9ea2d_16 : decode cJx4a65c_add_9ea2d 16 = .ok (.aload_n 0, 1) := by decide +kernel
theorem dJx4a65c_add_9ea2d_17 : decode cJx4a65c_add_9ea2d 17 = .ok (.getfield 48, 3) := by decide +kernel
theorem dJx4a65c_add_9ea2d_20 : decode cJx4a65c_add_9ea2d 20 = .ok (.invokevirtual 131, 3) := by decide +kernel
theorem dJx4a65c_add_9ea2d_23 : decode cJx4a65c_add_9ea2d 23 = .ok (.iconst 1, 1) := by decide +kernel
theorem dJx4a65c_add_9ea2d_24 : decode cJx4a65c_add_9ea2d 24 = .ok (.ireturn, 1) := by decide +kernel
theorem dJx4a65c_clear_da8c8_0 : decode cJx4a65c_clear_da8c8 0 = .ok (.aload_n 0, 1) := by decide +kernel
theorem dJx4a65c_clear_da8c8_1 : decode cJx4a65c_clear_da8c8 1 = .ok (.dup, 1) := by decide +kernel
theorem dJx4a65c_clear_da8c8_2 : decode cJx4a65c_clear_da8c8 2 = .ok (.getfield 63, 3) := by decide +kernel
theorem dJx4a65c_clear_da8c8_5 : decode cJx4a65c_clear_da8c8 5 = .ok (.iconst 1, 1) := by decide +kernel
theorem dJx4a65c_clear_da8c8_6 : decode cJx4a65c_clear_da8c8 6 = .ok (.iadd, 1) := by decide +kernel
theorem dJx4a65c_clear_da8c8_7 : decode cJx4a65c_clear_da8c8 7 = .ok (.putfield 63, 3) := by decide +kernel
theorem dJx4a65c_clear_da8c8_10 : decode cJx4a65c_clear_da8c8 10 = .ok (.aload_n 0, 1) := by decide +kernel
theorem dJx4a65c_clear_da8c8_11 : decode cJx4a65c_clear_da8c8 11 = .ok (.getfield 9, 3) := by decide +kernel
theorem dJx4a65c_clear_da8c8_14 : decode cJx4a65c_clear_da8c8 14 = .ok (.astore_n 1, 1) := by decide +kernel
theorem dJx4a65c_clear_da8c8_15 : decode cJx4a65c_clear_da8c8 15 = .ok (.aload_n 0, 1) := by decide +kernel
theorem dJx4a65c_clear_da8c8_16 : decode cJx4a65c_clear_da8c8 16 = .ok (.getfield 48, 3) := by decide +kernel
theorem dJx4a65c_clear_da8c8_19 : decode cJx4a65c_clear_da8c8 19 = .ok (.istore_n 2, 1) := by decide +kernel
theorem dJx4a65c_clear_da8c8_20 : decode cJx4a65c_clear_da8c8 20 = .ok (.aload_n 0, 1) := by decide +kernel
theorem dJx4a65c_clear_da8c8_21 : decode cJx4a65c_clear_da8c8 21 = .ok (.iconst 0, 1) := by decide +kernel
theorem dJx4a65c_clear_da8c8_22 : decode cJx4a65c_clear_da8c8 22 = .ok (.dup_x1, 1) := by decide +kernel
theorem dJx4a65c_clear_da8c8_23 : decode cJx4a65c_clear_da8c8 23 = .ok (.putfield 48, 3) := by decide +kernel
theorem dJx4a65c_clear_da8c8_26 : decode cJx4a65c_clear_da8c8 26 = .ok (.istore_n 3, 1) := by decide +kernel
theorem dJx4a65c_clear_da8c8_27 : decode cJx4a65c_clear_da8c8 27 = .ok (.iload_n 3, 1) := by decide +kernel
theorem dJx4a65c_clear_da8c8_28 : decode cJx4a65c_clear_da8c8 28 = .ok (.iload_n 2, 1) := by decide +kernel
theorem dJx4a65c_clear_da8c8_29 : decode cJx4a65c_clear_da8c8 29 = .ok (.if_icmp .ge 13, 3) := by decide +kernel
theorem dJx4a65c_clear_da8c8_32 : decode cJx4a65c_clear_da8c8 32 = .ok (.aload_n 1, 1) := by decide +kernel
theorem dJx4a65c_clear_da8c8_33 : decode cJx4a65c_clear_da8c8 33 = .ok (.iload_n 3, 1) := by decide +kernel
theorem dJx4a65c_clear_da8c8_34 : decode cJx4a65c_clear_da8c8 34 = .ok (.aconst_null, 1) := by decide +kernel
theorem dJx4a65c_clear_da8c8_35 : decode cJx4a65c_clear_da8c8 35 = .ok (.aastore, 1) := by decide +kernel
theorem dJx4a65c_clear_da8c8_36 : decode cJx4a65c_clear_da8c8 36 = .ok (.iinc 3 1, 3) := by decide +kernel
theorem dJx4a65c_clear_da8c8_39 : decode cJx4a65c_clear_da8c8 39 = .ok (.goto (-12), 3) := by decide +kernel
theorem dJx4a65c_clear_da8c8_42 : decode cJx4a65c_clear_da8c8 42 = .ok (.return_, 1) := by decide +kernel
theorem dJ7_copyOf_1904c_0 : decode cJ7_copyOf_1904c 0 = .ok (.aload_n 0, 1) := by decide +kernel
theorem dJ7_copyOf_1904c_1 : decode cJ7_copyOf_1904c 1 = .ok (.iload_n 1, 1) := by decide +kernel
theorem dJ7_copyOf_1904c_2 : decode cJ7_copyOf_1904c 2 = .ok (.aload_n 0, 1) := by decide +kernel
theorem dJ7_copyOf_1904c_3 : decode cJ7_copyOf_1904c 3 = .ok (.invokevirtual 86, 3) := by decide +kernel
theorem dJ7_copyOf_1904c_6 : decode cJ7_copyOf_1904c 6 = .ok (.invokestatic 300, 3) := by decide +kernel
theorem dJ7_copyOf_1904c_9 : decode cJ7_copyOf_1904c 9 = .ok (.areturn, 1) := by decide +kernel
theorem dJ7_copyOf_6403c_0 : decode cJ7_copyOf_6403c 0 = .ok (.aload_n 2, 1) := by decide +kernel
theorem dJ7_copyOf_6403c_1 : decode cJ7_copyOf_6403c 1 = .ok (.ldc 110, 2) := by decide +kernel
theorem dJ7_copyOf_6403c_3 : decode cJ7_copyOf_6403c 3 = .ok (.if_acmp .ne 10, 3) := by decide +kernel
theorem dJ7_copyOf_6403c_6 : decode cJ7_copyOf_6403c 6 = .ok (.iload_n 1, 1) := by decide +kernel
theorem dJ7_copyOf_6403c_7 : decode cJ7_copyOf_6403c 7 = .ok (.anewarray 2, 3) := by decide +kernel
theorem dJ7_copyOf_6403c_10 : decode cJ7_copyOf_6403c 10 = .ok (.goto 14, 3) := by decide +kernel
theorem dJ7_copyOf_6403c_13 : decode cJ7_copyOf_6403c 13 = .ok (.aload_n 2, 1) := by decide +kernel
theorem dJ7_copyOf_6403c_14 : decode cJ7_copyOf_6403c 14 = .ok (.invokevirtual 90, 3) := by decide +kernel
theorem dJ7_copyOf_6403c_17 : decode cJ7_copyOf_6403c 17 = .ok (.iload_n 1, 1) := by decide +kernel
theorem dJ7_copyOf_6403c_18 : decode cJ7_copyOf_6403c 18 = .ok (.invokestatic 95, 3) := by decide +kernel
theorem dJ7_copyOf_6403c_21 : decode cJ7_copyOf_6403c 21 = .ok (.checkcast 110, 3) := by decide +kernel
theorem dJ7_copyOf_6403c_24 : decode cJ7_copyOf_6403c 24 = .ok (.astore_n 3, 1) := by decide +kernel
theorem dJ7_copyOf_6403c_25 : decode cJ7_copyOf_6403c 25 = .ok (.aload_n 0, 1) := by decide +kernel
theorem dJ7_copyOf_6403c_26 : decode cJ7_copyOf_6403c 26 = .ok (.iconst 0, 1) := by decide +kernel
theorem dJ7_copyOf_6403c_27 : decode cJ7_copyOf_6403c 27 = .ok (.aload_n 3, 1) := by decide +kernel
theorem dJ7_copyOf_6403c_28 : decode cJ7_copyOf_6403c 28 = .ok (.iconst 0, 1) := by decide +kernel
theorem dJ7_copyOf_6403c_29 : decode cJ7_copyOf_6403c 29 = .ok (.aload_n 0, 1) := by decide +kernel
theorem dJ7_copyOf_6403c_30 : decode cJ7_copyOf_6403c 30 = .ok (.arraylength, 1) := by decide +kernel
theorem dJ7_copyOf_6403c_31 : decode cJ7_copyOf_6403c 31 = .ok (.iload_n 1, 1) := by decide +kernel
theorem dJ7_copyOf_6403c_32 : decode cJ7_copyOf_6403c 32 = .ok (.invokestatic 304, 3) := by decide +kernel
theorem dJ7_copyOf_6403c_35 : decode cJ7_copyOf_6403c 35 = .ok (.invokestatic 150, 3) := by decide +kernel
theorem dJ7_copyOf_6403c_38 : decode cJ7_copyOf_6403c 38 = .ok (.aload_n 3, 1) := by decide +kernel
theorem dJ7_copyOf_6403c_39 : decode cJ7_copyOf_6403c 39 = .ok (.areturn, 1) := by decide +kernel
theorem dJ15_checkIndex_7cf53_0 : decode cJ15_checkIndex_7cf53 0 = .ok (.iload_n 0, 1) := by decide +kernel
theorem dJ15_checkIndex_7cf53_1 : decode cJ15_checkIndex_7cf53 1 = .ok (.iload_n 1, 1) := by decide +kernel
theorem dJ15_checkIndex_7cf53_2 : decode cJ15_checkIndex_7cf53 2 = .ok (.aconst_null, 1) := by decide +kernel
theorem dJ15_checkIndex_7cf53_3 : decode cJ15_checkIndex_7cf53 3 = .ok (.invokestatic 105, 3) := by decide +kernel
theorem dJ15_checkIndex_7cf53_6 : decode cJ15_checkIndex_7cf53 6 = .ok (.ireturn, 1) := by decide +kernel
theorem dJ8_newLength_cabcc_0 : decode cJ8_newLength_cabcc 0 = .ok (.iload_n 0, 1) := by decide +kernel
theorem dJ8_newLength_cabcc_1 : decode cJ8_newLength_cabcc 1 = .ok (.iload_n 1, 1) := by decide +kernel
theorem dJ8_newLength_cabcc_2 : decode cJ8_newLength_cabcc 2 = .ok (.iload_n 2, 1) := by decide +kernel
theorem dJ8_newLength_cabcc_3 : decode cJ8_newLength_cabcc 3 = .ok (.invokestatic 194, 3) := by decide +kernel
theorem dJ8_newLength_cabcc_6 : decode cJ8_newLength_cabcc 6 = .ok (.iadd, 1) := by decide +kernel
theorem dJ8_newLength_cabcc_7 : decode cJ8_newLength_cabcc 7 = .ok (.istore_n 3, 1) := by decide +kernel
theorem dJ8_newLength_cabcc_8 : decode cJ8_newLength_cabcc 8 = .ok (.iconst 0, 1) := by decide +kernel
theorem dJ8_newLength_cabcc_9 : decode cJ8_newLength_cabcc 9 = .ok (.iload_n 3, 1) := by decide +kernel
theorem dJ8_newLength_cabcc_10 : decode cJ8_newLength_cabcc 10 = .ok (.if_icmp .ge 11, 3) := by decide +kernel
theorem dJ8_newLength_cabcc_13 : decode cJ8_newLength_cabcc 13 = .ok (.iload_n 3, 1) := by decide +kernel
theorem dJ8_newLength_cabcc_14 : decode cJ8_newLength_cabcc 14 = .ok (.ldc 200, 2) := by decide +kernel
theorem dJ8_newLength_cabcc_16 : decode cJ8_newLength_cabcc 16 = .ok (.if_icmp .gt 5, 3) := by decide +kernel
theorem dJ8_newLength_cabcc_19 : decode cJ8_newLength_cabcc 19 = .ok (.iload_n 3, 1) := by decide +kernel
theorem dJ8_newLength_cabcc_20 : decode cJ8_newLength_cabcc 20 = .ok (.ireturn, 1) := by decide +kernel
theorem dJ8_newLength_cabcc_21 : decode cJ8_newLength_cabcc 21 = .ok (.iload_n 0, 1) := by decide +kernel
theorem dJ8_newLength_cabcc_22 : decode cJ8_newLength_cabcc 22 = .ok (.iload_n 1, 1) := by decide +kernel
theorem dJ8_newLength_cabcc_23 : decode cJ8_newLength_cabcc 23 = .ok (.invokestatic 201, 3) := by decide +kernel
theorem dJ8_newLength_cabcc_26 : decode cJ8_newLength_cabcc 26 = .ok (.ireturn, 1) := by decide +kernel
theorem dJ8_hugeLength_7cf53_0 : decode cJ8_hugeLength_7cf53 0 = .ok (.iload_n 0, 1) := by decide +kernel
theorem dJ8_hugeLength_7cf53_1 : decode cJ8_hugeLength_7cf53 1 = .ok (.iload_n 1, 1) := by decide +kernel
theorem dJ8_hugeLength_7cf53_2 : decode cJ8_hugeLength_7cf53 2 = .ok (.iadd, 1) := by decide +kernel
theorem dJ8_hugeLength_7cf53_3 : decode cJ8_hugeLength_7cf53 3 = .ok (.istore_n 2, 1) := by decide +kernel
theorem dJ8_hugeLength_7cf53_4 : decode cJ8_hugeLength_7cf53 4 = .ok (.iload_n 2, 1) := by decide +kernel
theorem dJ8_hugeLength_7cf53_5 : decode cJ8_hugeLength_7cf53 5 = .ok (.ifCond .ge 44, 3) := by decide +kernel
theorem dJ8_hugeLength_7cf53_8 : decode cJ8_hugeLength_7cf53 8 = .ok (.new 204, 3) := by decide +kernel
theorem dJ8_hugeLength_7cf53_11 : decode cJ8_hugeLength_7cf53 11 = .ok (.dup, 1) := by decide +kernel
theorem dJ8_hugeLength_7cf53_12 : decode cJ8_hugeLength_7cf53 12 = .ok (.new 89, 3) := by decide +kernel
theorem dJ8_hugeLength_7cf53_15 : decode cJ8_hugeLength_7cf53 15 = .ok (.dup, 1) := by decide +kernel
theorem dJ8_hugeLength_7cf53_16 : decode cJ8_hugeLength_7cf53 16 = .ok (.invokespecial 91, 3) := by decide +kernel
theorem dJ8_hugeLength_7cf53_19 : decode cJ8_hugeLength_7cf53 19 = .ok (.ldc 206, 2) := by decide +kernel
theorem dJ8_hugeLength_7cf53_21 : decode cJ8_hugeLength_7cf53 21 = .ok (.invokevirtual 94, 3) := by decide +kernel
theorem dJ8_hugeLength_7cf53_24 : decode cJ8_hugeLength_7cf53 24 = .ok (.iload_n 0, 1) := by decide +kernel
theorem dJ8_hugeLength_7cf53_25 : decode cJ8_hugeLength_7cf53 25 = .ok (.invokevirtual 98, 3) := by decide +kernel
theorem dJ8_hugeLength_7cf53_28 : decode cJ8_hugeLength_7cf53 28 = .ok (.ldc 208, 2) := by decide +kernel
theorem dJ8_hugeLength_7cf53_30 : decode cJ8_hugeLength_7cf53 30 = .ok (.invokevirtual 94, 3) := by decide +kernel
theorem dJ8_hugeLength_7cf53_33 : decode cJ8_hugeLength_7cf53 33 = .ok (.iload_n 1, 1) := by decide +kernel
theorem dJ8_hugeLength_7cf53_34 : decode cJ8_hugeLength_7cf53 34 = .ok (.invokevirtual 98, 3) := by decide +kernel
theorem dJ8_hugeLength_7cf53_37 : decode cJ8_hugeLength_7cf53 37 = .ok (.ldc 210, 2) := by decide +kernel
theorem dJ8_hugeLength_7cf53_39 : decode cJ8_hugeLength_7cf53 39 = .ok (.invokevirtual 94, 3) := by decide +kernel
theorem dJ8_hugeLength_7cf53_42 : decode cJ8_hugeLength_7cf53 42 = .ok (.invokevirtual 101, 3) := by decide +kernel
theorem dJ8_hugeLength_7cf53_45 : decode cJ8_hugeLength_7cf53 45 = .ok (.invokespecial 212, 3) := by decide +kernel
theorem dJ8_hugeLength_7cf53_48 : decode cJ8_hugeLength_7cf53 48 = .ok (.athrow, 1) := by decide +kernel
theorem dJ8_hugeLength_7cf53_49 : decode cJ8_hugeLength_7cf53 49 = .ok (.iload_n 2, 1) := by decide +kernel
theorem dJ8_hugeLength_7cf53_50 : decode cJ8_hugeLength_7cf53 50 = .ok (.ldc 200, 2) := by decide +kernel
theorem dJ8_hugeLength_7cf53_52 : decode cJ8_hugeLength_7cf53 52 = .ok (.if_icmp .gt 6, 3) := by decide +kernel
theorem dJ8_hugeLength_7cf53_55 : decode cJ8_hugeLength_7cf53 55 = .ok (.ldc 200, 2) := by decide +kernel
theorem dJ8_hugeLength_7cf53_57 : decode cJ8_hugeLength_7cf53 57 = .ok (.ireturn, 1) := by decide +kernel
theorem dJ8_hugeLength_7cf53_58 : decode cJ8_hugeLength_7cf53 58 = .ok (.iload_n 2, 1) := by decide +kernel
theorem dJ8_hugeLength_7cf53_59 : decode cJ8_hugeLength_7cf53 59 = .ok (.ireturn, 1) := by decide +kernel
theorem dJ3_checkIndex_8e157_0 : decode cJ3_checkIndex_8e157 0 = .ok (.iload_n 0, 1) := by decide +kernel
theorem dJ3_checkIndex_8e157_1 : decode cJ3_checkIndex_8e157 1 = .ok (.ifCond .lt 8, 3) := by decide +kernel
theorem dJ3_checkIndex_8e157_4 : decode cJ3_checkIndex_8e157 4 = .ok (.iload_n 0, 1) := by decide +kernel
theorem dJ3_checkIndex_8e157_5 : decode cJ3_checkIndex_8e157 5 = .ok (.iload_n 1, 1) := by decide +kernel
theorem dJ3_checkIndex_8e157_6 : decode cJ3_checkIndex_8e157 6 = .ok (.if_icmp .lt 10, 3) := by decide +kernel
theorem dJ3_checkIndex_8e157_9 : decode cJ3_checkIndex_8e157 9 = .ok (.aload_n 2, 1) := by decide +kernel
theorem dJ3_checkIndex_8e157_10 : decode cJ3_checkIndex_8e157 10 = .ok (.iload_n 0, 1) := by decide +kernel
theorem dJ3_checkIndex_8e157_11 : decode cJ3_checkIndex_8e157 11 = .ok (.iload_n 1, 1) := by decide +kernel
theorem dJ3_checkIndex_8e157_12 : decode cJ3_checkIndex_8e157 12 = .ok (.invokestatic 95, 3) := by decide +kernel
theorem dJ3_checkIndex_8e157_15 : decode cJ3_checkIndex_8e157 15 = .ok (.athrow, 1) := by decide +kernel
theorem dJ3_checkIndex_8e157_16 : decode cJ3_checkIndex_8e157 16 = .ok (.iload_n 0, 1) := by decide +kernel
theorem dJ3_checkIndex_8e157_17 : decode cJ3_checkIndex_8e157 17 = .ok (.ireturn, 1) := by decide +kernel
end
section
theorem dX0_init_0 : decode cX0_init 0 = .ok (.aload_n 0, 1) := by decide +kernel
theorem dX0_init_1 : decode cX0_init 1 = .ok (.invokespecial 1, 3) := by decide +kernel
theorem dX0_init_4 : decode cX0_init 4 = .ok (.aload_n 0, 1) := by decide +kernel
theorem dX0_init_5 : decode cX0_init 5 = .ok (.aload_n 1, 1) := by decide +kernel
theorem dX0_init_6 : decode cX0_init 6 = .ok (.putfield 7, 3) := by decide +kernel
theorem dX0_init_9 : decode cX0_init 9 = .ok (.aload_n 0, 1) := by decide +kernel
theorem dX0_init_10 : decode cX0_init 10 = .ok (.iload_n 2, 1) := by decide +kernel
theorem dX0_init_11 : decode cX0_init 11 = .ok (.putfield 13, 3) := by decide +kernel
theorem dX0_init_14 : decode cX0_init 14 = .ok (.aload_n 0, 1) := by decide +kernel
theorem dX0_init_15 : decode cX0_init 15 = .ok (.iload_n 3, 1) := by decide +kernel
theorem dX0_init_16 : decode cX0_init 16 = .ok (.putfield 17, 3) := by decide +kernel
theorem dX0_init_19 : decode cX0_init 19 = .ok (.aload_n 0, 1) := by decide +kernel
theorem dX0_init_20 : decode cX0_init 20 = .ok (.iload 4, 2) := by decide +kernel
theorem dX0_init_22 : decode cX0_init 22 = .ok (.putfield 21, 3) := by decide +kernel
theorem dX0_init_25 : decode cX0_init 25 = .ok (.aload_n 0, 1) := by decide +kernel
theorem dX0_init_26 : decode cX0_init 26 = .ok (.iload 5, 2) := by decide +kernel
theorem dX0_init_28 : decode cX0_init 28 = .ok (.putfield 24, 3) := by decide +kernel
theorem dX0_init_31 : decode cX0_init 31 = .ok (.return_, 1) := by decide +kernel
theorem dX0_lastTick_0 : decode cX0_lastTick 0 = .ok (.aload_n 0, 1) := by decide +kernel
theorem dX0_lastTick_1 : decode cX0_lastTick 1 = .ok (.getfield 17, 3) := by decide +kernel
theorem dX0_lastTick_4 : decode cX0_lastTick 4 = .ok (.aload_n 0, 1) := by decide +kernel
theorem dX0_lastTick_5 : decode cX0_lastTick 5 = .ok (.getfield 24, 3) := by decide +kernel
theorem dX0_lastTick_8 : decode cX0_lastTick 8 = .ok (.iadd, 1) := by decide +kernel
theorem dX0_lastTick_9 : decode cX0_lastTick 9 = .ok (.iconst 1, 1) := by decide +kernel
theorem dX0_lastTick_10 : decode cX0_lastTick 10 = .ok (.isub, 1) := by decide +kernel
theorem dX0_lastTick_11 : decode cX0_lastTick 11 = .ok (.ireturn, 1) := by decide +kernel
theorem dX0_isOnIn_0 : decode cX0_isOnIn 0 = .ok (.aload_n 0, 1) := by decide +kernel
theorem dX0_isOnIn_1 : decode cX0_isOnIn 1 = .ok (.getfield 17, 3) := by decide +kernel
theorem dX0_isOnIn_4 : decode cX0_isOnIn 4 = .ok (.iload_n 1, 1) := by decide +kernel
theorem dX0_isOnIn_5 : decode cX0_isOnIn 5 = .ok (.if_icmp .gt 15, 3) := by decide +kernel
theorem dX0_isOnIn_8 : decode cX0_isOnIn 8 = .ok (.iload_n 1, 1) := by decide +kernel
theorem dX0_isOnIn_9 : decode cX0_isOnIn 9 = .ok (.aload_n 0, 1) := by decide +kernel
theorem dX0_isOnIn_10 : decode cX0_isOnIn 10 = .ok (.invokevirtual 27, 3) := by decide +kernel
theorem dX0_isOnIn_13 : decode cX0_isOnIn 13 = .ok (.if_icmp .gt 7, 3) := by decide +kernel
theorem dX0_isOnIn_16 : decode cX0_isOnIn 16 = .ok (.iconst 1, 1) := by decide +kernel
theorem dX0_isOnIn_17 : decode cX0_isOnIn 17 = .ok (.goto 4, 3) := by decide +kernel
theorem dX0_isOnIn_20 : decode cX0_isOnIn 20 = .ok (.iconst 0, 1) := by decide +kernel
theorem dX0_isOnIn_21 : decode cX0_isOnIn 21 = .ok (.ireturn, 1) := by decide +kernel
theorem dX1_init_0 : decode cX1_init 0 = .ok (.aload_n 0, 1) := by decide +kernel
theorem dX1_init_1 : decode cX1_init 1 = .ok (.invokespecial 3, 3) := by decide +kernel
theorem dX1_init_4 : decode cX1_init 4 = .ok (.aload_n 0, 1) := by decide +kernel
theorem dX1_init_5 : decode cX1_init 5 = .ok (.new 9, 3) := by decide +kernel
theorem dX1_init_8 : decode cX1_init 8 = .ok (.dup, 1) := by decide +kernel
theorem dX1_init_9 : decode cX1_init 9 = .ok (.invokespecial 11, 3) := by decide +kernel
theorem dX1_init_12 : decode cX1_init 12 = .ok (.putfield 12, 3) := by decide +kernel
theorem dX1_init_15 : decode cX1_init 15 = .ok (.aload_n 0, 1) := by decide +kernel
theorem dX1_init_16 : decode cX1_init 16 = .ok (.bipush 40, 2) := by decide +kernel
theorem dX1_init_18 : decode cX1_init 18 = .ok (.putfield 18, 3) := by decide +kernel
theorem dX1_init_21 : decode cX1_init 21 = .ok (.aload_n 0, 1) := by decide +kernel
theorem dX1_init_22 : decode cX1_init 22 = .ok (.iconst 0, 1) := by decide +kernel
theorem dX1_init_23 : decode cX1_init 23 = .ok (.putfield 22, 3) := by decide +kernel
theorem dX1_init_26 : decode cX1_init 26 = .ok (.aload_n 0, 1) := by decide +kernel
theorem dX1_init_27 : decode cX1_init 27 = .ok (.iconst 0, 1) := by decide +kernel
theorem dX1_init_28 : decode cX1_init 28 = .ok (.putfield 25, 3) := by decide +kernel
theorem dX1_init_31 : decode cX1_init 31 = .ok (.aload_n 0, 1) := by decide +kernel
theorem dX1_init_32 : decode cX1_init 32 = .ok (.iconst 0, 1) := by decide +kernel
theorem dX1_init_33 : decode cX1_init 33 = .ok (.putfield 28, 3) := by decide +kernel
theorem dX1_init_36 : decode cX1_init 36 = .ok (.aload_n 0, 1) := by decide +kernel
theorem dX1_init_37 : decode cX1_init 37 = .ok (.iconst 0, 1) := by decide +kernel
theorem dX1_init_38 : decode cX1_init 38 = .ok (.putfield 31, 3) := by decide +kernel
theorem dX1_init_41 : decode cX1_init 41 = .ok (.aload_n 0, 1) := by decide +kernel
theorem dX1_init_42 : decode cX1_init 42 = .ok (.iconst 0, 1) := by decide +kernel
theorem dX1_init_43 : decode cX1_init 43 = .ok (.putfield 34, 3) := by decide +kernel
theorem dX1_init_46 : decode cX1_init 46 = .ok (.return_, 1) := by decide +kernel
theorem dX1_begin_0 : decode cX1_begin 0 = .ok (.aload_n 0, 1) := by decide +kernel
theorem dX1_begin_1 : decode cX1_begin 1 = .ok (.getfield 12, 3) := by decide +kernel
theorem dX1_begin_4 : decode cX1_begin 4 = .ok (.invokevirtual 37, 3) := by decide +kernel
theorem dX1_begin_7 : decode cX1_begin 7 = .ok (.aload_n 0, 1) := by decide +kernel
theorem dX1_begin_8 : decode cX1_begin 8 = .ok (.iconst 0, 1) := by decide +kernel
theorem dX1_begin_9 : decode cX1_begin 9 = .ok (.putfield 22, 3) := by decide +kernel
theorem dX1_begin_12 : decode cX1_begin 12 = .ok (.aload_n 0, 1) := by decide +kernel
theorem dX1_begin_13 : decode cX1_begin 13 = .ok (.iconst 0, 1) := by decide +kernel
theorem dX1_begin_14 : decode cX1_begin 14 = .ok (.putfield 25, 3) := by decide +kernel
theorem dX1_begin_17 : decode cX1_begin 17 = .ok (.aload_n 0, 1) := by decide +kernel
theorem dX1_begin_18 : decode cX1_begin 18 = .ok (.iconst 0, 1) := by decide +kernel
theorem dX1_begin_19 : decode cX1_begin 19 = .ok (.putfield 28, 3) := by decide +kernel
theorem dX1_begin_22 : decode cX1_begin 22 = .ok (.aload_n 0, 1) := by decide +kernel
theorem dX1_begin_23 : decode cX1_begin 23 = .ok (.iconst 0, 1) := by decide +kernel
theorem dX1_begin_24 : decode cX1_begin 24 = .ok (.putfield 31, 3) := by decide +kernel
theorem dX1_begin_27 : decode cX1_begin 27 = .ok (.aload_n 0, 1) := by decide +kernel
theorem dX1_begin_28 : decode cX1_begin 28 = .ok (.iconst 0, 1) := by decide +kernel
theorem dX1_begin_29 : decode cX1_begin 29 = .ok (.putfield 34, 3) := by decide +kernel
theorem dX1_begin_32 : decode cX1_begin 32 = .ok (.return_, 1) := by decide +kernel
theorem dX1_handsAreFoundOut_0 : decode cX1_handsAreFoundOut 0 = .ok (.aload_n 0, 1) := by decide +kernel
theorem dX1_handsAreFoundOut_1 : decode cX1_handsAreFoundOut 1 = .ok (.getfield 34, 3) := by decide +kernel
theorem dX1_handsAreFoundOut_4 : decode cX1_handsAreFoundOut 4 = .ok (.iconst 3, 1) := by decide +kernel
theorem dX1_handsAreFoundOut_5 : decode cX1_handsAreFoundOut 5 = .ok (.if_icmp .lt 7, 3) := by decide +kernel
theorem dX1_handsAreFoundOut_8 : decode cX1_handsAreFoundOut 8 = .ok (.iconst 1, 1) := by decide +kernel
theorem dX1_handsAreFoundOut_9 : decode cX1_handsAreFoundOut 9 = .ok (.goto 4, 3) := by decide +kernel
theorem dX1_handsAreFoundOut_12 : decode cX1_handsAreFoundOut 12 = .ok (.iconst 0, 1) := by decide +kernel
theorem dX1_handsAreFoundOut_13 : decode cX1_handsAreFoundOut 13 = .ok (.ireturn, 1) := by decide +kernel
theorem dX1_passTick_0 : decode cX1_passTick 0 = .ok (.aload_n 1, 1) := by decide +kernel
theorem dX1_passTick_1 : decode cX1_passTick 1 = .ok (.invokevirtual 40, 3) := by decide +kernel
theorem dX1_passTick_4 : decode cX1_passTick 4 = .ok (.iconst 0, 1) := by decide +kernel
theorem dX1_passTick_5 : decode cX1_passTick 5 = .ok (.istore_n 2, 1) := by decide +kernel
theorem dX1_passTick_6 : decode cX1_passTick 6 = .ok (.iload_n 2, 1) := by decide +kernel
theorem dX1_passTick_7 : decode cX1_passTick 7 = .ok (.aload_n 1, 1) := by decide +kernel
theorem dX1_passTick_8 : decode cX1_passTick 8 = .ok (.getfield 45, 3) := by decide +kernel
theorem dX1_passTick_11 : decode cX1_passTick 11 = .ok (.if_icmp .ge 32, 3) := by decide +kernel
theorem dX1_passTick_14 : decode cX1_passTick 14 = .ok (.iconst 0, 1) := by decide +kernel
theorem dX1_passTick_15 : decode cX1_passTick 15 = .ok (.istore_n 3, 1) := by decide +kernel
theorem dX1_passTick_16 : decode cX1_passTick 16 = .ok (.iload_n 3, 1) := by decide +kernel
theorem dX1_passTick_17 : decode cX1_passTick 17 = .ok (.aload_n 1, 1) := by decide +kernel
theorem dX1_passTick_18 : decode cX1_passTick 18 = .ok (.getfield 48, 3) := by decide +kernel
theorem dX1_passTick_21 : decode cX1_passTick 21 = .ok (.if_icmp .ge 16, 3) := by decide +kernel
theorem dX1_passTick_24 : decode cX1_passTick 24 = .ok (.aload_n 0, 1) := by decide +kernel
theorem dX1_passTick_25 : decode cX1_passTick 25 = .ok (.aload_n 1, 1) := by decide +kernel
theorem dX1_passTick_26 : decode cX1_passTick 26 = .ok (.iload_n 2, 1) := by decide +kernel
theorem dX1_passTick_27 : decode cX1_passTick 27 = .ok (.iload_n 3, 1) := by decide +kernel
theorem dX1_passTick_28 : decode cX1_passTick 28 = .ok (.invokevirtual 51, 3) := by decide +kernel
theorem dX1_passTick_31 : decode cX1_passTick 31 = .ok (.iinc 3 1, 3) := by decide +kernel
theorem dX1_passTick_34 : decode cX1_passTick 34 = .ok (.goto (-18), 3) := by decide +kernel
theorem dX1_passTick_37 : decode cX1_passTick 37 = .ok (.iinc 2 1, 3) := by decide +kernel
theorem dX1_passTick_40 : decode cX1_passTick 40 = .ok (.goto (-34), 3) := by decide +kernel
theorem dX1_passTick_43 : decode cX1_passTick 43 = .ok (.aload_n 0, 1) := by decide +kernel
theorem dX1_passTick_44 : decode cX1_passTick 44 = .ok (.aload_n 1, 1) := by decide +kernel
theorem dX1_passTick_45 : decode cX1_passTick 45 = .ok (.invokevirtual 55, 3) := by decide +kernel
theorem dX1_passTick_48 : decode cX1_passTick 48 = .ok (.invokevirtual 59, 3) := by decide +kernel
theorem dX1_passTick_51 : decode cX1_passTick 51 = .ok (.aload_n 0, 1) := by decide +kernel
theorem dX1_passTick_52 : decode cX1_passTick 52 = .ok (.aload_n 1, 1) := by decide +kernel
theorem dX1_passTick_53 : decode cX1_passTick 53 = .ok (.bipush 112, 2) := by decide +kernel
theorem dX1_passTick_55 : decode cX1_passTick 55 = .ok (.invokevirtual 63, 3) := by decide +kernel
theorem dX1_passTick_58 : decode cX1_passTick 58 = .ok (.aload_n 1, 1) := by decide +kernel
theorem dX1_passTick_59 : decode cX1_passTick 59 = .ok (.bipush 104, 2) := by decide +kernel
theorem dX1_passTick_61 : decode cX1_passTick 61 = .ok (.invokevirtual 63, 3) := by decide +kernel
theorem dX1_passTick_64 : decode cX1_passTick 64 = .ok (.invokevirtual 67, 3) := by decide +kernel
theorem dX1_passTick_67 : decode cX1_passTick 67 = .ok (.aload_n 0, 1) := by decide +kernel
theorem dX1_passTick_68 : decode cX1_passTick 68 = .ok (.dup, 1) := by decide +kernel
theorem dX1_passTick_69 : decode cX1_passTick 69 = .ok (.getfield 22, 3) := by decide +kernel
theorem dX1_passTick_72 : decode cX1_passTick 72 = .ok (.iconst 1, 1) := by decide +kernel
theorem dX1_passTick_73 : decode cX1_passTick 73 = .ok (.iadd, 1) := by decide +kernel
theorem dX1_passTick_74 : decode cX1_passTick 74 = .ok (.putfield 22, 3) := by decide +kernel
theorem dX1_passTick_77 : decode cX1_passTick 77 = .ok (.return_, 1) := by decide +kernel
theorem dX1_soundSeat_0 : decode cX1_soundSeat 0 = .ok (.aload_n 1, 1) := by decide +kernel
theorem dX1_soundSeat_1 : decode cX1_soundSeat 1 = .ok (.iload_n 2, 1) := by decide +kernel
theorem dX1_soundSeat_2 : decode cX1_soundSeat 2 = .ok (.iload_n 3, 1) := by decide +kernel
theorem dX1_soundSeat_3 : decode cX1_soundSeat 3 = .ok (.invokevirtual 71, 3) := by decide +kernel
theorem dX1_soundSeat_6 : decode cX1_soundSeat 6 = .ok (.astore 4, 2) := by decide +kernel
theorem dX1_soundSeat_8 : decode cX1_soundSeat 8 = .ok (.aload 4, 2) := by decide +kernel
theorem dX1_soundSeat_10 : decode cX1_soundSeat 10 = .ok (.ifnonnull 4, 3) := by decide +kernel
theorem dX1_soundSeat_13 : decode cX1_soundSeat 13 = .ok (.return_, 1) := by decide +kernel
theorem dX1_soundSeat_14 : decode cX1_soundSeat 14 = .ok (.aload 4, 2) := by decide +kernel
theorem dX1_soundSeat_16 : decode cX1_soundSeat 16 = .ok (.getfield 75, 3) := by decide +kernel
theorem dX1_soundSeat_19 : decode cX1_soundSeat 19 = .ok (.bipush 112, 2) := by decide +kernel
theorem dX1_soundSeat_21 : decode cX1_soundSeat 21 = .ok (.if_icmp .ne 17, 3) := by decide +kernel
theorem dX1_soundSeat_24 : decode cX1_soundSeat 24 = .ok (.aload 4, 2) := by decide +kernel
theorem dX1_soundSeat_26 : decode cX1_soundSeat 26 = .ok (.aload_n 1, 1) := by decide +kernel
theorem dX1_soundSeat_27 : decode cX1_soundSeat 27 = .ok (.iload_n 2, 1) := by decide +kernel
theorem dX1_soundSeat_28 : decode cX1_soundSeat 28 = .ok (.iload_n 3, 1) := by decide +kernel
theorem dX1_soundSeat_29 : decode cX1_soundSeat 29 = .ok (.invokevirtual 81, 3) := by decide +kernel
theorem dX1_soundSeat_32 : decode cX1_soundSeat 32 = .ok (.invokevirtual 85, 3) := by decide +kernel
theorem dX1_soundSeat_35 : decode cX1_soundSeat 35 = .ok (.goto 81, 3) := by decide +kernel
theorem dX1_soundSeat_38 : decode cX1_soundSeat 38 = .ok (.aload 4, 2) := by decide +kernel
theorem dX1_soundSeat_40 : decode cX1_soundSeat 40 = .ok (.getfield 75, 3) := by decide +kernel
theorem dX1_soundSeat_43 : decode cX1_soundSeat 43 = .ok (.bipush 114, 2) := by decide +kernel
theorem dX1_soundSeat_45 : decode cX1_soundSeat 45 = .ok (.if_icmp .ne 49, 3) := by decide +kernel
theorem dX1_soundSeat_48 : decode cX1_soundSeat 48 = .ok (.aload 4, 2) := by decide +kernel
theorem dX1_soundSeat_50 : decode cX1_soundSeat 50 = .ok (.aload_n 1, 1) := by decide +kernel
theorem dX1_soundSeat_51 : decode cX1_soundSeat 51 = .ok (.iload_n 2, 1) := by decide +kernel
theorem dX1_soundSeat_52 : decode cX1_soundSeat 52 = .ok (.iload_n 3, 1) := by decide +kernel
theorem dX1_soundSeat_53 : decode cX1_soundSeat 53 = .ok (.invokevirtual 81, 3) := by decide +kernel
theorem dX1_soundSeat_56 : decode cX1_soundSeat 56 = .ok (.bipush 12, 2) := by decide +kernel
theorem dX1_soundSeat_58 : decode cX1_soundSeat 58 = .ok (.if_icmp .lt 7, 3) := by decide +kernel
theorem dX1_soundSeat_61 : decode cX1_soundSeat 61 = .ok (.iconst 1, 1) := by decide +kernel
theorem dX1_soundSeat_62 : decode cX1_soundSeat 62 = .ok (.goto 4, 3) := by decide +kernel
theorem dX1_soundSeat_65 : decode cX1_soundSeat 65 = .ok (.iconst 0, 1) := by decide +kernel
theorem dX1_soundSeat_66 : decode cX1_soundSeat 66 = .ok (.putfield 88, 3) := by decide +kernel
theorem dX1_soundSeat_69 : decode cX1_soundSeat 69 = .ok (.aload_n 0, 1) := by decide +kernel
theorem dX1_soundSeat_70 : decode cX1_soundSeat 70 = .ok (.dup, 1) := by decide +kernel
theorem dX1_soundSeat_71 : decode cX1_soundSeat 71 = .ok (.getfield 31, 3) := by decide +kernel
theorem dX1_soundSeat_74 : decode cX1_soundSeat 74 = .ok (.aload 4, 2) := by decide +kernel
theorem dX1_soundSeat_76 : decode cX1_soundSeat 76 = .ok (.getfield 88, 3) := by decide +kernel
theorem dX1_soundSeat_79 : decode cX1_soundSeat 79 = .ok (.ifCond .eq 7, 3) := by decide +kernel
theorem dX1_soundSeat_82 : decode cX1_soundSeat 82 = .ok (.iconst 1, 1) := by decide +kernel
theorem dX1_soundSeat_83 : decode cX1_soundSeat 83 = .ok (.goto 4, 3) := by decide +kernel
theorem dX1_soundSeat_86 : decode cX1_soundSeat 86 = .ok (.iconst 0, 1) := by decide +kernel
theorem dX1_soundSeat_87 : decode cX1_soundSeat 87 = .ok (.iadd, 1) := by decide +kernel
theorem dX1_soundSeat_88 : decode cX1_soundSeat 88 = .ok (.putfield 31, 3) := by decide +kernel
theorem dX1_soundSeat_91 : decode cX1_soundSeat 91 = .ok (.goto 25, 3) := by decide +kernel
theorem dX1_soundSeat_94 : decode cX1_soundSeat 94 = .ok (.aload 4, 2) := by decide +kernel
theorem dX1_soundSeat_96 : decode cX1_soundSeat 96 = .ok (.getfield 92, 3) := by decide +kernel
theorem dX1_soundSeat_99 : decode cX1_soundSeat 99 = .ok (.ifnull 17, 3) := by decide +kernel
theorem dX1_soundSeat_102 : decode cX1_soundSeat 102 = .ok (.aload 4, 2) := by decide +kernel
theorem dX1_soundSeat_104 : decode cX1_soundSeat 104 = .ok (.aload_n 0, 1) := by decide +kernel
theorem dX1_soundSeat_105 : decode cX1_soundSeat 105 = .ok (.aload 4, 2) := by decide +kernel
theorem dX1_soundSeat_107 : decode cX1_soundSeat 107 = .ok (.getfield 92, 3) := by decide +kernel
theorem dX1_soundSeat_110 : decode cX1_soundSeat 110 = .ok (.invokevirtual 96, 3) := by decide +kernel
theorem dX1_soundSeat_113 : decode cX1_soundSeat 113 = .ok (.putfield 100, 3) := by decide +kernel
theorem dX1_soundSeat_116 : decode cX1_soundSeat 116 = .ok (.return_, 1) := by decide +kernel
theorem dX1_noiseOf_0 : decode cX1_noiseOf 0 = .ok (.aload_n 0, 1) := by decide +kernel
theorem dX1_noiseOf_1 : decode cX1_noiseOf 1 = .ok (.invokevirtual 103, 3) := by decide +kernel
theorem dX1_noiseOf_4 : decode cX1_noiseOf 4 = .ok (.ifCond .eq 5, 3) := by decide +kernel
theorem dX1_noiseOf_7 : decode cX1_noiseOf 7 = .ok (.iconst 0, 1) := by decide +kernel
theorem dX1_noiseOf_8 : decode cX1_noiseOf 8 = .ok (.ireturn, 1) := by decide +kernel
theorem dX1_noiseOf_9 : decode cX1_noiseOf 9 = .ok (.iconst 0, 1) := by decide +kernel
theorem dX1_noiseOf_10 : decode cX1_noiseOf 10 = .ok (.istore_n 2, 1) := by decide +kernel
theorem dX1_noiseOf_11 : decode cX1_noiseOf 11 = .ok (.iconst 0, 1) := by decide +kernel
theorem dX1_noiseOf_12 : decode cX1_noiseOf 12 = .ok (.istore_n 3, 1) := by decide +kernel
theorem dX1_noiseOf_13 : decode cX1_noiseOf 13 = .ok (.iload_n 3, 1) := by decide +kernel
theorem dX1_noiseOf_14 : decode cX1_noiseOf 14 = .ok (.aload_n 0, 1) := by decide +kernel
theorem dX1_noiseOf_15 : decode cX1_noiseOf 15 = .ok (.getfield 12, 3) := by decide +kernel
theorem dX1_noiseOf_18 : decode cX1_noiseOf 18 = .ok (.invokevirtual 107, 3) := by decide +kernel
theorem dX1_noiseOf_21 : decode cX1_noiseOf 21 = .ok (.if_icmp .ge 53, 3) := by decide +kernel
theorem dX1_noiseOf_24 : decode cX1_noiseOf 24 = .ok (.aload_n 0, 1) := by decide +kernel
theorem dX1_noiseOf_25 : decode cX1_noiseOf 25 = .ok (.getfield 12, 3) := by decide +kernel
theorem dX1_noiseOf_28 : decode cX1_noiseOf 28 = .ok (.iload_n 3, 1) := by decide +kernel
theorem dX1_noiseOf_29 : decode cX1_noiseOf 29 = .ok (.invokevirtual 110, 3) := by decide +kernel
theorem dX1_noiseOf_32 : decode cX1_noiseOf 32 = .ok (.checkcast 114, 3) := by decide +kernel
theorem dX1_noiseOf_35 : decode cX1_noiseOf 35 = .ok (.astore 4, 2) := by decide +kernel
theorem dX1_noiseOf_37 : decode cX1_noiseOf 37 = .ok (.aload 4, 2) := by decide +kernel
theorem dX1_noiseOf_39 : decode cX1_noiseOf 39 = .ok (.aload_n 0, 1) := by decide +kernel
theorem dX1_noiseOf_40 : decode cX1_noiseOf 40 = .ok (.getfield 22, 3) := by decide +kernel
theorem dX1_noiseOf_43 : decode cX1_noiseOf 43 = .ok (.invokevirtual 116, 3) := by decide +kernel
theorem dX1_noiseOf_46 : decode cX1_noiseOf 46 = .ok (.ifCond .eq 22, 3) := by decide +kernel
theorem dX1_noiseOf_49 : decode cX1_noiseOf 49 = .ok (.aload_n 1, 1) := by decide +kernel
theorem dX1_noiseOf_50 : decode cX1_noiseOf 50 = .ok (.aload 4, 2) := by decide +kernel
theorem dX1_noiseOf_52 : decode cX1_noiseOf 52 = .ok (.invokevirtual 120, 3) := by decide +kernel
theorem dX1_noiseOf_55 : decode cX1_noiseOf 55 = .ok (.ifCond .eq 13, 3) := by decide +kernel
theorem dX1_noiseOf_58 : decode cX1_noiseOf 58 = .ok (.iload_n 2, 1) := by decide +kernel
theorem dX1_noiseOf_59 : decode cX1_noiseOf 59 = .ok (.aload 4, 2) := by decide +kernel
theorem dX1_noiseOf_61 : decode cX1_noiseOf 61 = .ok (.getfield 126, 3) := by decide +kernel
theorem dX1_noiseOf_64 : decode cX1_noiseOf 64 = .ok (.invokestatic 129, 3) := by decide +kernel
theorem dX1_noiseOf_67 : decode cX1_noiseOf 67 = .ok (.istore_n 2, 1) := by decide +kernel
theorem dX1_noiseOf_68 : decode cX1_noiseOf 68 = .ok (.iinc 3 1, 3) := by decide +kernel
theorem dX1_noiseOf_71 : decode cX1_noiseOf 71 = .ok (.goto (-58), 3) := by decide +kernel
theorem dX1_noiseOf_74 : decode cX1_noiseOf 74 = .ok (.bipush 9, 2) := by decide +kernel
theorem dX1_noiseOf_76 : decode cX1_noiseOf 76 = .ok (.aload_n 1, 1) := by decide +kernel
theorem dX1_noiseOf_77 : decode cX1_noiseOf 77 = .ok (.getfield 134, 3) := by decide +kernel
theorem dX1_noiseOf_80 : decode cX1_noiseOf 80 = .ok (.iload_n 2, 1) := by decide +kernel
theorem dX1_noiseOf_81 : decode cX1_noiseOf 81 = .ok (.imul, 1) := by decide +kernel
theorem dX1_noiseOf_82 : decode cX1_noiseOf 82 = .ok (.invokestatic 137, 3) := by decide +kernel
theorem dX1_noiseOf_85 : decode cX1_noiseOf 85 = .ok (.ireturn, 1) := by decide +kernel
theorem dX1_hearNoise_0 : decode cX1_hearNoise 0 = .ok (.iload_n 1, 1) := by decide +kernel
theorem dX1_hearNoise_1 : decode cX1_hearNoise 1 = .ok (.aload_n 0, 1) := by decide +kernel
theorem dX1_hearNoise_2 : decode cX1_hearNoise 2 = .ok (.getfield 18, 3) := by decide +kernel
theorem dX1_hearNoise_5 : decode cX1_hearNoise 5 = .ok (.if_icmp .ge 9, 3) := by decide +kernel
theorem dX1_hearNoise_8 : decode cX1_hearNoise 8 = .ok (.aload_n 0, 1) := by decide +kernel
theorem dX1_hearNoise_9 : decode cX1_hearNoise 9 = .ok (.iconst 0, 1) := by decide +kernel
theorem dX1_hearNoise_10 : decode cX1_hearNoise 10 = .ok (.putfield 25, 3) := by decide +kernel
theorem dX1_hearNoise_13 : decode cX1_hearNoise 13 = .ok (.return_, 1) := by decide +kernel
theorem dX1_hearNoise_14 : decode cX1_hearNoise 14 = .ok (.aload_n 0, 1) := by decide +kernel
theorem dX1_hearNoise_15 : decode cX1_hearNoise 15 = .ok (.dup, 1) := by decide +kernel
theorem dX1_hearNoise_16 : decode cX1_hearNoise 16 = .ok (.getfield 25, 3) := by decide +kernel
theorem dX1_hearNoise_19 : decode cX1_hearNoise 19 = .ok (.iconst 1, 1) := by decide +kernel
theorem dX1_hearNoise_20 : decode cX1_hearNoise 20 = .ok (.iadd, 1) := by decide +kernel
theorem dX1_hearNoise_21 : decode cX1_hearNoise 21 = .ok (.putfield 25, 3) := by decide +kernel
theorem dX1_hearNoise_24 : decode cX1_hearNoise 24 = .ok (.aload_n 0, 1) := by decide +kernel
theorem dX1_hearNoise_25 : decode cX1_hearNoise 25 = .ok (.getfield 25, 3) := by decide +kernel
theorem dX1_hearNoise_28 : decode cX1_hearNoise 28 = .ok (.iconst 5, 1) := by decide +kernel
theorem dX1_hearNoise_29 : decode cX1_hearNoise 29 = .ok (.if_icmp .ge 4, 3) := by decide +kernel
theorem dX1_hearNoise_32 : decode cX1_hearNoise 32 = .ok (.return_, 1) := by decide +kernel
theorem dX1_hearNoise_33 : decode cX1_hearNoise 33 = .ok (.aload_n 0, 1) := by decide +kernel
theorem dX1_hearNoise_34 : decode cX1_hearNoise 34 = .ok (.iconst 0, 1) := by decide +kernel
theorem dX1_hearNoise_35 : decode cX1_hearNoise 35 = .ok (.putfield 25, 3) := by decide +kernel
theorem dX1_hearNoise_38 : decode cX1_hearNoise 38 = .ok (.aload_n 0, 1) := by decide +kernel
theorem dX1_hearNoise_39 : decode cX1_hearNoise 39 = .ok (.dup, 1) := by decide +kernel
theorem dX1_hearNoise_40 : decode cX1_hearNoise 40 = .ok (.getfield 28, 3) := by decide +kernel
theorem dX1_hearNoise_43 : decode cX1_hearNoise 43 = .ok (.iconst 1, 1) := by decide +kernel
theorem dX1_hearNoise_44 : decode cX1_hearNoise 44 = .ok (.iadd, 1) := by decide +kernel
theorem dX1_hearNoise_45 : decode cX1_hearNoise 45 = .ok (.putfield 28, 3) := by decide +kernel
theorem dX1_hearNoise_48 : decode cX1_hearNoise 48 = .ok (.aload_n 0, 1) := by decide +kernel
theorem dX1_hearNoise_49 : decode cX1_hearNoise 49 = .ok (.invokevirtual 140, 3) := by decide +kernel
theorem dX1_hearNoise_52 : decode cX1_hearNoise 52 = .ok (.astore_n 2, 1) := by decide +kernel
theorem dX1_hearNoise_53 : decode cX1_hearNoise 53 = .ok (.aload_n 2, 1) := by decide +kernel
theorem dX1_hearNoise_54 : decode cX1_hearNoise 54 = .ok (.ifnull 16, 3) := by decide +kernel
theorem dX1_hearNoise_57 : decode cX1_hearNoise 57 = .ok (.aload_n 2, 1) := by decide +kernel
theorem dX1_hearNoise_58 : decode cX1_hearNoise 58 = .ok (.getfield 144, 3) := by decide +kernel
theorem dX1_hearNoise_61 : decode cX1_hearNoise 61 = .ok (.dup, 1) := by decide +kernel
theorem dX1_hearNoise_62 : decode cX1_hearNoise 62 = .ok (.getfield 148, 3) := by decide +kernel
theorem dX1_hearNoise_65 : decode cX1_hearNoise 65 = .ok (.iconst 1, 1) := by decide +kernel
theorem dX1_hearNoise_66 : decode cX1_hearNoise 66 = .ok (.iadd, 1) := by decide +kernel
theorem dX1_hearNoise_67 : decode cX1_hearNoise 67 = .ok (.putfield 148, 3) := by decide +kernel
theorem dX1_hearNoise_70 : decode cX1_hearNoise 70 = .ok (.return_, 1) := by decide +kernel
theorem dX1_lastBegunCue_0 : decode cX1_lastBegunCue 0 = .ok (.aconst_null, 1) := by decide +kernel
theorem dX1_lastBegunCue_1 : decode cX1_lastBegunCue 1 = .ok (.astore_n 1, 1) := by decide +kernel
theorem dX1_lastBegunCue_2 : decode cX1_lastBegunCue 2 = .ok (.iconst 0, 1) := by decide +kernel
theorem dX1_lastBegunCue_3 : decode cX1_lastBegunCue 3 = .ok (.istore_n 2, 1) := by decide +kernel
theorem dX1_lastBegunCue_4 : decode cX1_lastBegunCue 4 = .ok (.iload_n 2, 1) := by decide +kernel
theorem dX1_lastBegunCue_5 : decode cX1_lastBegunCue 5 = .ok (.aload_n 0, 1) := by decide +kernel
theorem dX1_lastBegunCue_6 : decode cX1_lastBegunCue 6 = .ok (.getfield 12, 3) := by decide +kernel
theorem dX1_lastBegunCue_9 : decode cX1_lastBegunCue 9 = .ok (.invokevirtual 107, 3) := by decide +kernel
theorem dX1_lastBegunCue_12 : decode cX1_lastBegunCue 12 = .ok (.if_icmp .ge 49, 3) := by decide +kernel
theorem dX1_lastBegunCue_15 : decode cX1_lastBegunCue 15 = .ok (.aload_n 0, 1) := by decide +kernel
theorem dX1_lastBegunCue_16 : decode cX1_lastBegunCue 16 = .ok (.getfield 12, 3) := by decide +kernel
theorem dX1_lastBegunCue_19 : decode cX1_lastBegunCue 19 = .ok (.iload_n 2, 1) := by decide +kernel
theorem dX1_lastBegunCue_20 : decode cX1_lastBegunCue 20 = .ok (.invokevirtual 110, 3) := by decide +kernel
theorem dX1_lastBegunCue_23 : decode cX1_lastBegunCue 23 = .ok (.checkcast 114, 3) := by decide +kernel
theorem dX1_lastBegunCue_26 : decode cX1_lastBegunCue 26 = .ok (.astore_n 3, 1) := by decide +kernel
theorem dX1_lastBegunCue_27 : decode cX1_lastBegunCue 27 = .ok (.aload_n 3, 1) := by decide +kernel
theorem dX1_lastBegunCue_28 : decode cX1_lastBegunCue 28 = .ok (.getfield 151, 3) := by decide +kernel
theorem dX1_lastBegunCue_31 : decode cX1_lastBegunCue 31 = .ok (.aload_n 0, 1) := by decide +kernel
theorem dX1_lastBegunCue_32 : decode cX1_lastBegunCue 32 = .ok (.getfield 22, 3) := by decide +kernel
theorem dX1_lastBegunCue_35 : decode cX1_lastBegunCue 35 = .ok (.if_icmp .gt 20, 3) := by decide +kernel
theorem dX1_lastBegunCue_38 : decode cX1_lastBegunCue 38 = .ok (.aload_n 1, 1) := by decide +kernel
theorem dX1_lastBegunCue_39 : decode cX1_lastBegunCue 39 = .ok (.ifnull 14, 3) := by decide +kernel
theorem dX1_lastBegunCue_42 : decode cX1_lastBegunCue 42 = .ok (.aload_n 3, 1) := by decide +kernel
theorem dX1_lastBegunCue_43 : decode cX1_lastBegunCue 43 = .ok (.getfield 151, 3) := by decide +kernel
theorem dX1_lastBegunCue_46 : decode cX1_lastBegunCue 46 = .ok (.aload_n 1, 1) := by decide +kernel
theorem dX1_lastBegunCue_47 : decode cX1_lastBegunCue 47 = .ok (.getfield 151, 3) := by decide +kernel
theorem dX1_lastBegunCue_50 : decode cX1_lastBegunCue 50 = .ok (.if_icmp .lt 5, 3) := by decide +kernel
theorem dX1_lastBegunCue_53 : decode cX1_lastBegunCue 53 = .ok (.aload_n 3, 1) := by decide +kernel
theorem dX1_lastBegunCue_54 : decode cX1_lastBegunCue 54 = .ok (.astore_n 1, 1) := by decide +kernel
theorem dX1_lastBegunCue_55 : decode cX1_lastBegunCue 55 = .ok (.iinc 2 1, 3) := by decide +kernel
theorem dX1_lastBegunCue_58 : decode cX1_lastBegunCue 58 = .ok (.goto (-54), 3) := by decide +kernel
theorem dX1_lastBegunCue_61 : decode cX1_lastBegunCue 61 = .ok (.aload_n 1, 1) := by decide +kernel
theorem dX1_lastBegunCue_62 : decode cX1_lastBegunCue 62 = .ok (.areturn, 1) := by decide +kernel
theorem dX1_judgeCues_0 : decode cX1_judgeCues 0 = .ok (.iload_n 1, 1) := by decide +kernel
theorem dX1_judgeCues_1 : decode cX1_judgeCues 1 = .ok (.iload_n 2, 1) := by decide +kernel
theorem dX1_judgeCues_2 : decode cX1_judgeCues 2 = .ok (.if_icmp .lt 4, 3) := by decide +kernel
theorem dX1_judgeCues_5 : decode cX1_judgeCues 5 = .ok (.return_, 1) := by decide +kernel
theorem dX1_judgeCues_6 : decode cX1_judgeCues 6 = .ok (.iconst 0, 1) := by decide +kernel
theorem dX1_judgeCues_7 : decode cX1_judgeCues 7 = .ok (.istore_n 3, 1) := by decide +kernel
theorem dX1_judgeCues_8 : decode cX1_judgeCues 8 = .ok (.iload_n 3, 1) := by decide +kernel
theorem dX1_judgeCues_9 : decode cX1_judgeCues 9 = .ok (.aload_n 0, 1) := by decide +kernel
theorem dX1_judgeCues_10 : decode cX1_judgeCues 10 = .ok (.getfield 12, 3) := by decide +kernel
theorem dX1_judgeCues_13 : decode cX1_judgeCues 13 = .ok (.invokevirtual 107, 3) := by decide +kernel
theorem dX1_judgeCues_16 : decode cX1_judgeCues 16 = .ok (.if_icmp .ge 40, 3) := by decide +kernel
theorem dX1_judgeCues_19 : decode cX1_judgeCues 19 = .ok (.aload_n 0, 1) := by decide +kernel
theorem dX1_judgeCues_20 : decode cX1_judgeCues 20 = .ok (.getfield 12, 3) := by decide +kernel
theorem dX1_judgeCues_23 : decode cX1_judgeCues 23 = .ok (.iload_n 3, 1) := by decide +kernel
theorem dX1_judgeCues_24 : decode cX1_judgeCues 24 = .ok (.invokevirtual 110, 3) := by decide +kernel
theorem dX1_judgeCues_27 : decode cX1_judgeCues 27 = .ok (.checkcast 114, 3) := by decide +kernel
theorem dX1_judgeCues_30 : decode cX1_judgeCues 30 = .ok (.invokevirtual 154, 3) := by decide +kernel
theorem dX1_judgeCues_33 : decode cX1_judgeCues 33 = .ok (.aload_n 0, 1) := by decide +kernel
theorem dX1_judgeCues_34 : decode cX1_judgeCues 34 = .ok (.getfield 22, 3) := by decide +kernel
theorem dX1_judgeCues_37 : decode cX1_judgeCues 37 = .ok (.if_icmp .ne 13, 3) := by decide +kernel
theorem dX1_judgeCues_40 : decode cX1_judgeCues 40 = .ok (.aload_n 0, 1) := by decide +kernel
theorem dX1_judgeCues_41 : decode cX1_judgeCues 41 = .ok (.dup, 1) := by decide +kernel
theorem dX1_judgeCues_42 : decode cX1_judgeCues 42 = .ok (.getfield 34, 3) := by decide +kernel
theorem dX1_judgeCues_45 : decode cX1_judgeCues 45 = .ok (.iconst 1, 1) := by decide +kernel
theorem dX1_judgeCues_46 : decode cX1_judgeCues 46 = .ok (.iadd, 1) := by decide +kernel
theorem dX1_judgeCues_47 : decode cX1_judgeCues 47 = .ok (.putfield 34, 3) := by decide +kernel
theorem dX1_judgeCues_50 : decode cX1_judgeCues 50 = .ok (.iinc 3 1, 3) := by decide +kernel
theorem dX1_judgeCues_53 : decode cX1_judgeCues 53 = .ok (.goto (-45), 3) := by decide +kernel
theorem dX1_judgeCues_56 : decode cX1_judgeCues 56 = .ok (.return_, 1) := by decide +kernel
theorem dX1_hasBegunCueFor_0 : decode cX1_hasBegunCueFor 0 = .ok (.iconst 0, 1) := by decide +kernel
theorem dX1_hasBegunCueFor_1 : decode cX1_hasBegunCueFor 1 = .ok (.istore_n 2, 1) := by decide +kernel
theorem dX1_hasBegunCueFor_2 : decode cX1_hasBegunCueFor 2 = .ok (.iload_n 2, 1) := by decide +kernel
theorem dX1_hasBegunCueFor_3 : decode cX1_hasBegunCueFor 3 = .ok (.aload_n 0, 1) := by decide +kernel
theorem dX1_hasBegunCueFor_4 : decode cX1_hasBegunCueFor 4 = .ok (.getfield 12, 3) := by decide +kernel
theorem dX1_hasBegunCueFor_7 : decode cX1_hasBegunCueFor 7 = .ok (.invokevirtual 107, 3) := by decide +kernel
theorem dX1_hasBegunCueFor_10 : decode cX1_hasBegunCueFor 10 = .ok (.if_icmp .ge 42, 3) := by decide +kernel
theorem dX1_hasBegunCueFor_13 : decode cX1_hasBegunCueFor 13 = .ok (.aload_n 0, 1) := by decide +kernel
theorem dX1_hasBegunCueFor_14 : decode cX1_hasBegunCueFor 14 = .ok (.getfield 12, 3) := by decide +kernel
theorem dX1_hasBegunCueFor_17 : decode cX1_hasBegunCueFor 17 = .ok (.iload_n 2, 1) := by decide +kernel
theorem dX1_hasBegunCueFor_18 : decode cX1_hasBegunCueFor 18 = .ok (.invokevirtual 110, 3) := by decide +kernel
theorem dX1_hasBegunCueFor_21 : decode cX1_hasBegunCueFor 21 = .ok (.checkcast 114, 3) := by decide +kernel
theorem dX1_hasBegunCueFor_24 : decode cX1_hasBegunCueFor 24 = .ok (.astore_n 3, 1) := by decide +kernel
theorem dX1_hasBegunCueFor_25 : decode cX1_hasBegunCueFor 25 = .ok (.aload_n 3, 1) := by decide +kernel
theorem dX1_hasBegunCueFor_26 : decode cX1_hasBegunCueFor 26 = .ok (.getfield 144, 3) := by decide +kernel
theorem dX1_hasBegunCueFor_29 : decode cX1_hasBegunCueFor 29 = .ok (.aload_n 1, 1) := by decide +kernel
theorem dX1_hasBegunCueFor_30 : decode cX1_hasBegunCueFor 30 = .ok (.if_acmp .ne 16, 3) := by decide +kernel
theorem dX1_hasBegunCueFor_33 : decode cX1_hasBegunCueFor 33 = .ok (.aload_n 3, 1) := by decide +kernel
theorem dX1_hasBegunCueFor_34 : decode cX1_hasBegunCueFor 34 = .ok (.getfield 151, 3) := by decide +kernel
theorem dX1_hasBegunCueFor_37 : decode cX1_hasBegunCueFor 37 = .ok (.aload_n 0, 1) := by decide +kernel
theorem dX1_hasBegunCueFor_38 : decode cX1_hasBegunCueFor 38 = .ok (.getfield 22, 3) := by decide +kernel
theorem dX1_hasBegunCueFor_41 : decode cX1_hasBegunCueFor 41 = .ok (.if_icmp .ge 5, 3) := by decide +kernel
theorem dX1_hasBegunCueFor_44 : decode cX1_hasBegunCueFor 44 = .ok (.iconst 1, 1) := by decide +kernel
theorem dX1_hasBegunCueFor_45 : decode cX1_hasBegunCueFor 45 = .ok (.ireturn, 1) := by decide +kernel
theorem dX1_hasBegunCueFor_46 : decode cX1_hasBegunCueFor 46 = .ok (.iinc 2 1, 3) := by decide +kernel
theorem dX1_hasBegunCueFor_49 : decode cX1_hasBegunCueFor 49 = .ok (.goto (-47), 3) := by decide +kernel
theorem dX1_hasBegunCueFor_52 : decode cX1_hasBegunCueFor 52 = .ok (.iconst 0, 1) := by decide +kernel
theorem dX1_hasBegunCueFor_53 : decode cX1_hasBegunCueFor 53 = .ok (.ireturn, 1) := by decide +kernel
theorem dX2_init_0 : decode cX2_init 0 = .ok (.aload_n 0, 1) := by decide +kernel
theorem dX2_init_1 : decode cX2_init 1 = .ok (.invokespecial 3, 3) := by decide +kernel
theorem dX2_init_4 : decode cX2_init 4 = .ok (.aload_n 0, 1) := by decide +kernel
theorem dX2_init_5 : decode cX2_init 5 = .ok (.iconst 0, 1) := by decide +kernel
theorem dX2_init_6 : decode cX2_init 6 = .ok (.putfield 9, 3) := by decide +kernel
theorem dX2_init_9 : decode cX2_init 9 = .ok (.aload_n 0, 1) := by decide +kernel
theorem dX2_init_10 : decode cX2_init 10 = .ok (.aconst_null, 1) := by decide +kernel
theorem dX2_init_11 : decode cX2_init 11 = .ok (.putfield 15, 3) := by decide +kernel
theorem dX2_init_14 : decode cX2_init 14 = .ok (.aload_n 0, 1) := by decide +kernel
theorem dX2_init_15 : decode cX2_init 15 = .ok (.iload_n 1, 1) := by decide +kernel
theorem dX2_init_16 : decode cX2_init 16 = .ok (.putfield 19, 3) := by decide +kernel
theorem dX2_init_19 : decode cX2_init 19 = .ok (.aload_n 0, 1) := by decide +kernel
theorem dX2_init_20 : decode cX2_init 20 = .ok (.iload_n 2, 1) := by decide +kernel
theorem dX2_init_21 : decode cX2_init 21 = .ok (.putfield 23, 3) := by decide +kernel
theorem dX2_init_24 : decode cX2_init 24 = .ok (.aload_n 0, 1) := by decide +kernel
theorem dX2_init_25 : decode cX2_init 25 = .ok (.iload_n 3, 1) := by decide +kernel
theorem dX2_init_26 : decode cX2_init 26 = .ok (.putfield 26, 3) := by decide +kernel
theorem dX2_init_29 : decode cX2_init 29 = .ok (.aload_n 0, 1) := by decide +kernel
theorem dX2_init_30 : decode cX2_init 30 = .ok (.iload 4, 2) := by decide +kernel
theorem dX2_init_32 : decode cX2_init 32 = .ok (.putfield 29, 3) := by decide +kernel
theorem dX2_init_35 : decode cX2_init 35 = .ok (.return_, 1) := by decide +kernel
theorem dX2_parts_0 : decode cX2_parts 0 = .ok (.aload_n 0, 1) := by decide +kernel
theorem dX2_parts_1 : decode cX2_parts 1 = .ok (.getfield 26, 3) := by decide +kernel
theorem dX2_parts_4 : decode cX2_parts 4 = .ok (.iconst 1, 1) := by decide +kernel
theorem dX2_parts_5 : decode cX2_parts 5 = .ok (.iadd, 1) := by decide +kernel
theorem dX2_parts_6 : decode cX2_parts 6 = .ok (.ireturn, 1) := by decide +kernel
theorem dX2_follows_0 : decode cX2_follows 0 = .ok (.aload_n 0, 1) := by decide +kernel
theorem dX2_follows_1 : decode cX2_follows 1 = .ok (.getfield 19, 3) := by decide +kernel
theorem dX2_follows_4 : decode cX2_follows 4 = .ok (.bipush 97, 2) := by decide +kernel
theorem dX2_follows_6 : decode cX2_follows 6 = .ok (.if_icmp .eq 14, 3) := by decide +kernel
theorem dX2_follows_9 : decode cX2_follows 9 = .ok (.aload_n 0, 1) := by decide +kernel
theorem dX2_follows_10 : decode cX2_follows 10 = .ok (.getfield 19, 3) := by decide +kernel
theorem dX2_follows_13 : decode cX2_follows 13 = .ok (.aload_n 1, 1) := by decide +kernel
theorem dX2_follows_14 : decode cX2_follows 14 = .ok (.getfield 32, 3) := by decide +kernel
theorem dX2_follows_17 : decode cX2_follows 17 = .ok (.if_icmp .ne 7, 3) := by decide +kernel
theorem dX2_follows_20 : decode cX2_follows 20 = .ok (.iconst 1, 1) := by decide +kernel
theorem dX2_follows_21 : decode cX2_follows 21 = .ok (.goto 4, 3) := by decide +kernel
theorem dX2_follows_24 : decode cX2_follows 24 = .ok (.iconst 0, 1) := by decide +kernel
theorem dX2_follows_25 : decode cX2_follows 25 = .ok (.ireturn, 1) := by decide +kernel
theorem dX3_init_0 : decode cX3_init 0 = .ok (.aload_n 0, 1) := by decide +kernel
theorem dX3_init_1 : decode cX3_init 1 = .ok (.invokespecial 3, 3) := by decide +kernel
theorem dX3_init_4 : decode cX3_init 4 = .ok (.aload_n 0, 1) := by decide +kernel
theorem dX3_init_5 : decode cX3_init 5 = .ok (.bipush 80, 2) := by decide +kernel
theorem dX3_init_7 : decode cX3_init 7 = .ok (.anewarray 9, 3) := by decide +kernel
theorem dX3_init_10 : decode cX3_init 10 = .ok (.putfield 11, 3) := by decide +kernel
theorem dX3_init_13 : decode cX3_init 13 = .ok (.aload_n 0, 1) := by decide +kernel
theorem dX3_init_14 : decode cX3_init 14 = .ok (.iconst 0, 1) := by decide +kernel
theorem dX3_init_15 : decode cX3_init 15 = .ok (.putfield 17, 3) := by decide +kernel
theorem dX3_init_18 : decode cX3_init 18 = .ok (.aload_n 0, 1) := by decide +kernel
theorem dX3_init_19 : decode cX3_init 19 = .ok (.iconst 0, 1) := by decide +kernel
theorem dX3_init_20 : decode cX3_init 20 = .ok (.putfield 21, 3) := by decide +kernel
theorem dX3_init_23 : decode cX3_init 23 = .ok (.iconst 0, 1) := by decide +kernel
theorem dX3_init_24 : decode cX3_init 24 = .ok (.istore_n 1, 1) := by decide +kernel
theorem dX3_init_25 : decode cX3_init 25 = .ok (.iload_n 1, 1) := by decide +kernel
theorem dX3_init_26 : decode cX3_init 26 = .ok (.aload_n 0, 1) := by decide +kernel
theorem dX3_init_27 : decode cX3_init 27 = .ok (.getfield 11, 3) := by decide +kernel
theorem dX3_init_30 : decode cX3_init 30 = .ok (.arraylength, 1) := by decide +kernel
theorem dX3_init_31 : decode cX3_init 31 = .ok (.if_icmp .ge 22, 3) := by decide +kernel
theorem dX3_init_34 : decode cX3_init 34 = .ok (.aload_n 0, 1) := by decide +kernel
theorem dX3_init_35 : decode cX3_init 35 = .ok (.getfield 11, 3) := by decide +kernel
theorem dX3_init_38 : decode cX3_init 38 = .ok (.iload_n 1, 1) := by decide +kernel
theorem dX3_init_39 : decode cX3_init 39 = .ok (.new 9, 3) := by decide +kernel
theorem dX3_init_42 : decode cX3_init 42 = .ok (.dup, 1) := by decide +kernel
theorem dX3_init_43 : decode cX3_init 43 = .ok (.invokespecial 24, 3) := by decide +kernel
theorem dX3_init_46 : decode cX3_init 46 = .ok (.aastore, 1) := by decide +kernel
theorem dX3_init_47 : decode cX3_init 47 = .ok (.iinc 1 1, 3) := by decide +kernel
theorem dX3_init_50 : decode cX3_init 50 = .ok (.goto (-25), 3) := by decide +kernel
theorem dX3_init_53 : decode cX3_init 53 = .ok (.return_, 1) := by decide +kernel
theorem dX3_build_0 : decode cX3_build 0 = .ok (.aload_n 0, 1) := by decide +kernel
theorem dX3_build_1 : decode cX3_build 1 = .ok (.getfield 11, 3) := by decide +kernel
theorem dX3_build_4 : decode cX3_build 4 = .ok (.astore_n 3, 1) := by decide +kernel
theorem dX3_build_5 : decode cX3_build 5 = .ok (.aload_n 3, 1) := by decide +kernel
theorem dX3_build_6 : decode cX3_build 6 = .ok (.arraylength, 1) := by decide +kernel
theorem dX3_build_7 : decode cX3_build 7 = .ok (.istore 4, 2) := by decide +kernel
theorem dX3_build_9 : decode cX3_build 9 = .ok (.iconst 0, 1) := by decide +kernel
theorem dX3_build_10 : decode cX3_build 10 = .ok (.istore 5, 2) := by decide +kernel
theorem dX3_build_12 : decode cX3_build 12 = .ok (.iload 5, 2) := by decide +kernel
theorem dX3_build_14 : decode cX3_build 14 = .ok (.iload 4, 2) := by decide +kernel
theorem dX3_build_16 : decode cX3_build 16 = .ok (.if_icmp .ge 23, 3) := by decide +kernel
theorem dX3_build_19 : decode cX3_build 19 = .ok (.aload_n 3, 1) := by decide +kernel
theorem dX3_build_20 : decode cX3_build 20 = .ok (.iload 5, 2) := by decide +kernel
theorem dX3_build_22 : decode cX3_build 22 = .ok (.aaload, 1) := by decide +kernel
theorem dX3_build_23 : decode cX3_build 23 = .ok (.astore 6, 2) := by decide +kernel
theorem dX3_build_25 : decode cX3_build 25 = .ok (.aload 6, 2) := by decide +kernel
theorem dX3_build_27 : decode cX3_build 27 = .ok (.bipush 46, 2) := by decide +kernel
theorem dX3_build_29 : decode cX3_build 29 = .ok (.invokevirtual 25, 3) := by decide +kernel
theorem dX3_build_32 : decode cX3_build 32 = .ok (.pop, 1) := by decide +kernel
theorem dX3_build_33 : decode cX3_build 33 = .ok (.iinc 5 1, 3) := by decide +kernel
theorem dX3_build_36 : decode cX3_build 36 = .ok (.goto (-24), 3) := by decide +kernel
theorem dX3_build_39 : decode cX3_build 39 = .ok (.aload_n 0, 1) := by decide +kernel
theorem dX3_build_40 : decode cX3_build 40 = .ok (.iload_n 1, 1) := by decide +kernel
theorem dX3_build_41 : decode cX3_build 41 = .ok (.putfield 17, 3) := by decide +kernel
theorem dX3_build_44 : decode cX3_build 44 = .ok (.aload_n 0, 1) := by decide +kernel
theorem dX3_build_45 : decode cX3_build 45 = .ok (.iload_n 2, 1) := by decide +kernel
theorem dX3_build_46 : decode cX3_build 46 = .ok (.putfield 21, 3) := by decide +kernel
theorem dX3_build_49 : decode cX3_build 49 = .ok (.return_, 1) := by decide +kernel
theorem dX3_seatOrNull_0 : decode cX3_seatOrNull 0 = .ok (.iload_n 1, 1) := by decide +kernel
theorem dX3_seatOrNull_1 : decode cX3_seatOrNull 1 = .ok (.ifCond .lt 23, 3) := by decide +kernel
theorem dX3_seatOrNull_4 : decode cX3_seatOrNull 4 = .ok (.iload_n 1, 1) := by decide +kernel
theorem dX3_seatOrNull_5 : decode cX3_seatOrNull 5 = .ok (.aload_n 0, 1) := by decide +kernel
theorem dX3_seatOrNull_6 : decode cX3_seatOrNull 6 = .ok (.getfield 17, 3) := by decide +kernel
theorem dX3_seatOrNull_9 : decode cX3_seatOrNull 9 = .ok (.if_icmp .ge 15, 3) := by decide +kernel
theorem dX3_seatOrNull_12 : decode cX3_seatOrNull 12 = .ok (.iload_n 2, 1) := by decide +kernel
theorem dX3_seatOrNull_13 : decode cX3_seatOrNull 13 = .ok (.ifCond .lt 11, 3) := by decide +kernel
theorem dX3_seatOrNull_16 : decode cX3_seatOrNull 16 = .ok (.iload_n 2, 1) := by decide +kernel
theorem dX3_seatOrNull_17 : decode cX3_seatOrNull 17 = .ok (.aload_n 0, 1) := by decide +kernel
theorem dX3_seatOrNull_18 : decode cX3_seatOrNull 18 = .ok (.getfield 21, 3) := by decide +kernel
theorem dX3_seatOrNull_21 : decode cX3_seatOrNull 21 = .ok (.if_icmp .lt 5, 3) := by decide +kernel
theorem dX3_seatOrNull_24 : decode cX3_seatOrNull 24 = .ok (.aconst_null, 1) := by decide +kernel
theorem dX3_seatOrNull_25 : decode cX3_seatOrNull 25 = .ok (.areturn, 1) := by decide +kernel
theorem dX3_seatOrNull_26 : decode cX3_seatOrNull 26 = .ok (.iload_n 1, 1) := by decide +kernel
theorem dX3_seatOrNull_27 : decode cX3_seatOrNull 27 = .ok (.bipush 10, 2) := by decide +kernel
theorem dX3_seatOrNull_29 : decode cX3_seatOrNull 29 = .ok (.imul, 1) := by decide +kernel
theorem dX3_seatOrNull_30 : decode cX3_seatOrNull 30 = .ok (.iload_n 2, 1) := by decide +kernel
theorem dX3_seatOrNull_31 : decode cX3_seatOrNull 31 = .ok (.iadd, 1) := by decide +kernel
theorem dX3_seatOrNull_32 : decode cX3_seatOrNull 32 = .ok (.istore_n 3, 1) := by decide +kernel
theorem dX3_seatOrNull_33 : decode cX3_seatOrNull 33 = .ok (.iload_n 3, 1) := by decide +kernel
theorem dX3_seatOrNull_34 : decode cX3_seatOrNull 34 = .ok (.aload_n 0, 1) := by decide +kernel
theorem dX3_seatOrNull_35 : decode cX3_seatOrNull 35 = .ok (.getfield 11, 3) := by decide +kernel
theorem dX3_seatOrNull_38 : decode cX3_seatOrNull 38 = .ok (.arraylength, 1) := by decide +kernel
theorem dX3_seatOrNull_39 : decode cX3_seatOrNull 39 = .ok (.if_icmp .ge 12, 3) := by decide +kernel
theorem dX3_seatOrNull_42 : decode cX3_seatOrNull 42 = .ok (.aload_n 0, 1) := by decide +kernel
theorem dX3_seatOrNull_43 : decode cX3_seatOrNull 43 = .ok (.getfield 11, 3) := by decide +kernel
theorem dX3_seatOrNull_46 : decode cX3_seatOrNull 46 = .ok (.iload_n 3, 1) := by decide +kernel
theorem dX3_seatOrNull_47 : decode cX3_seatOrNull 47 = .ok (.aaload, 1) := by decide +kernel
theorem dX3_seatOrNull_48 : decode cX3_seatOrNull 48 = .ok (.goto 4, 3) := by decide +kernel
theorem dX3_seatOrNull_51 : decode cX3_seatOrNull 51 = .ok (.aconst_null, 1) := by decide +kernel
theorem dX3_seatOrNull_52 : decode cX3_seatOrNull 52 = .ok (.areturn, 1) := by decide +kernel
theorem dX3_forgetEvening_0 : decode cX3_forgetEvening 0 = .ok (.aload_n 0, 1) := by decide +kernel
theorem dX3_forgetEvening_1 : decode cX3_forgetEvening 1 = .ok (.getfield 11, 3) := by decide +kernel
theorem dX3_forgetEvening_4 : decode cX3_forgetEvening 4 = .ok (.astore_n 1, 1) := by decide +kernel
theorem dX3_forgetEvening_5 : decode cX3_forgetEvening 5 = .ok (.aload_n 1, 1) := by decide +kernel
theorem dX3_forgetEvening_6 : decode cX3_forgetEvening 6 = .ok (.arraylength, 1) := by decide +kernel
theorem dX3_forgetEvening_7 : decode cX3_forgetEvening 7 = .ok (.istore_n 2, 1) := by decide +kernel
theorem dX3_forgetEvening_8 : decode cX3_forgetEvening 8 = .ok (.iconst 0, 1) := by decide +kernel
theorem dX3_forgetEvening_9 : decode cX3_forgetEvening 9 = .ok (.istore_n 3, 1) := by decide +kernel
theorem dX3_forgetEvening_10 : decode cX3_forgetEvening 10 = .ok (.iload_n 3, 1) := by decide +kernel
theorem dX3_forgetEvening_11 : decode cX3_forgetEvening 11 = .ok (.iload_n 2, 1) := by decide +kernel
theorem dX3_forgetEvening_12 : decode cX3_forgetEvening 12 = .ok (.if_icmp .ge 19, 3) := by decide +kernel
theorem dX3_forgetEvening_15 : decode cX3_forgetEvening 15 = .ok (.aload_n 1, 1) := by decide +kernel
theorem dX3_forgetEvening_16 : decode cX3_forgetEvening 16 = .ok (.iload_n 3, 1) := by decide +kernel
theorem dX3_forgetEvening_17 : decode cX3_forgetEvening 17 = .ok (.aaload, 1) := by decide +kernel
theorem dX3_forgetEvening_18 : decode cX3_forgetEvening 18 = .ok (.astore 4, 2) := by decide +kernel
theorem dX3_forgetEvening_20 : decode cX3_forgetEvening 20 = .ok (.aload 4, 2) := by decide +kernel
theorem dX3_forgetEvening_22 : decode cX3_forgetEvening 22 = .ok (.invokevirtual 29, 3) := by decide +kernel
theorem dX3_forgetEvening_25 : decode cX3_forgetEvening 25 = .ok (.iinc 3 1, 3) := by decide +kernel
theorem dX3_forgetEvening_28 : decode cX3_forgetEvening 28 = .ok (.goto (-18), 3) := by decide +kernel
theorem dX3_forgetEvening_31 : decode cX3_forgetEvening 31 = .ok (.return_, 1) := by decide +kernel
theorem dX3_keepTickAhead_0 : decode cX3_keepTickAhead 0 = .ok (.aload_n 0, 1) := by decide +kernel
theorem dX3_keepTickAhead_1 : decode cX3_keepTickAhead 1 = .ok (.getfield 11, 3) := by decide +kernel
theorem dX3_keepTickAhead_4 : decode cX3_keepTickAhead 4 = .ok (.astore_n 1, 1) := by decide +kernel
theorem dX3_keepTickAhead_5 : decode cX3_keepTickAhead 5 = .ok (.aload_n 1, 1) := by decide +kernel
theorem dX3_keepTickAhead_6 : decode cX3_keepTickAhead 6 = .ok (.arraylength, 1) := by decide +kernel
theorem dX3_keepTickAhead_7 : decode cX3_keepTickAhead 7 = .ok (.istore_n 2, 1) := by decide +kernel
theorem dX3_keepTickAhead_8 : decode cX3_keepTickAhead 8 = .ok (.iconst 0, 1) := by decide +kernel
theorem dX3_keepTickAhead_9 : decode cX3_keepTickAhead 9 = .ok (.istore_n 3, 1) := by decide +kernel
theorem dX3_keepTickAhead_10 : decode cX3_keepTickAhead 10 = .ok (.iload_n 3, 1) := by decide +kernel
theorem dX3_keepTickAhead_11 : decode cX3_keepTickAhead 11 = .ok (.iload_n 2, 1) := by decide +kernel
theorem dX3_keepTickAhead_12 : decode cX3_keepTickAhead 12 = .ok (.if_icmp .ge 19, 3) := by decide +kernel
theorem dX3_keepTickAhead_15 : decode cX3_keepTickAhead 15 = .ok (.aload_n 1, 1) := by decide +kernel
theorem dX3_keepTickAhead_16 : decode cX3_keepTickAhead 16 = .ok (.iload_n 3, 1) := by decide +kernel
theorem dX3_keepTickAhead_17 : decode cX3_keepTickAhead 17 = .ok (.aaload, 1) := by decide +kernel
theorem dX3_keepTickAhead_18 : decode cX3_keepTickAhead 18 = .ok (.astore 4, 2) := by decide +kernel
theorem dX3_keepTickAhead_20 : decode cX3_keepTickAhead 20 = .ok (.aload 4, 2) := by decide +kernel
theorem dX3_keepTickAhead_22 : decode cX3_keepTickAhead 22 = .ok (.invokevirtual 32, 3) := by decide +kernel
theorem dX3_keepTickAhead_25 : decode cX3_keepTickAhead 25 = .ok (.iinc 3 1, 3) := by decide +kernel
theorem dX3_keepTickAhead_28 : decode cX3_keepTickAhead 28 = .ok (.goto (-18), 3) := by decide +kernel
theorem dX3_keepTickAhead_31 : decode cX3_keepTickAhead 31 = .ok (.return_, 1) := by decide +kernel
theorem dX3_around_0 : decode cX3_around 0 = .ok (.iconst 0, 1) := by decide +kernel
theorem dX3_around_1 : decode cX3_around 1 = .ok (.istore_n 3, 1) := by decide +kernel
theorem dX3_around_2 : decode cX3_around 2 = .ok (.iload_n 1, 1) := by decide +kernel
theorem dX3_around_3 : decode cX3_around 3 = .ok (.iconst 1, 1) := by decide +kernel
theorem dX3_around_4 : decode cX3_around 4 = .ok (.isub, 1) := by decide +kernel
theorem dX3_around_5 : decode cX3_around 5 = .ok (.istore 4, 2) := by decide +kernel
theorem dX3_around_7 : decode cX3_around 7 = .ok (.iload 4, 2) := by decide +kernel
theorem dX3_around_9 : decode cX3_around 9 = .ok (.iload_n 1, 1) := by decide +kernel
theorem dX3_around_10 : decode cX3_around 10 = .ok (.iconst 1, 1) := by decide +kernel
theorem dX3_around_11 : decode cX3_around 11 = .ok (.iadd, 1) := by decide +kernel
theorem dX3_around_12 : decode cX3_around 12 = .ok (.if_icmp .gt 67, 3) := by decide +kernel
theorem dX3_around_15 : decode cX3_around 15 = .ok (.iload_n 2, 1) := by decide +kernel
theorem dX3_around_16 : decode cX3_around 16 = .ok (.iconst 1, 1) := by decide +kernel
theorem dX3_around_17 : decode cX3_around 17 = .ok (.isub, 1) := by decide +kernel
theorem dX3_around_18 : decode cX3_around 18 = .ok (.istore 5, 2) := by decide +kernel
theorem dX3_around_20 : decode cX3_around 20 = .ok (.iload 5, 2) := by decide +kernel
theorem dX3_around_22 : decode cX3_around 22 = .ok (.iload_n 2, 1) := by decide +kernel
theorem dX3_around_23 : decode cX3_around 23 = .ok (.iconst 1, 1) := by decide +kernel
theorem dX3_around_24 : decode cX3_around 24 = .ok (.iadd, 1) := by decide +kernel
theorem dX3_around_25 : decode cX3_around 25 = .ok (.if_icmp .gt 48, 3) := by decide +kernel
theorem dX3_around_28 : decode cX3_around 28 = .ok (.iload 4, 2) := by decide +kernel
theorem dX3_around_30 : decode cX3_around 30 = .ok (.iload_n 1, 1) := by decide +kernel
theorem dX3_around_31 : decode cX3_around 31 = .ok (.if_icmp .ne 13, 3) := by decide +kernel
theorem dX3_around_34 : decode cX3_around 34 = .ok (.iload 5, 2) := by decide +kernel
theorem dX3_around_36 : decode cX3_around 36 = .ok (.iload_n 2, 1) := by decide +kernel
theorem dX3_around_37 : decode cX3_around 37 = .ok (.if_icmp .ne 7, 3) := by decide +kernel
theorem dX3_around_40 : decode cX3_around 40 = .ok (.aconst_null, 1) := by decide +kernel
theorem dX3_around_41 : decode cX3_around 41 = .ok (.goto 11, 3) := by decide +kernel
theorem dX3_around_44 : decode cX3_around 44 = .ok (.aload_n 0, 1) := by decide +kernel
theorem dX3_around_45 : decode cX3_around 45 = .ok (.iload 4, 2) := by decide +kernel
theorem dX3_around_47 : decode cX3_around 47 = .ok (.iload 5, 2) := by decide +kernel
theorem dX3_around_49 : decode cX3_around 49 = .ok (.invokevirtual 35, 3) := by decide +kernel
theorem dX3_around_52 : decode cX3_around 52 = .ok (.astore 6, 2) := by decide +kernel
theorem dX3_around_54 : decode cX3_around 54 = .ok (.aload 6, 2) := by decide +kernel
theorem dX3_around_56 : decode cX3_around 56 = .ok (.ifnull 11, 3) := by decide +kernel
theorem dX3_around_59 : decode cX3_around 59 = .ok (.iload_n 3, 1) := by decide +kernel
theorem dX3_around_60 : decode cX3_around 60 = .ok (.aload 6, 2) := by decide +kernel
theorem dX3_around_62 : decode cX3_around 62 = .ok (.invokevirtual 39, 3) := by decide +kernel
theorem dX3_around_65 : decode cX3_around 65 = .ok (.iadd, 1) := by decide +kernel
theorem dX3_around_66 : decode cX3_around 66 = .ok (.istore_n 3, 1) := by decide +kernel
theorem dX3_around_67 : decode cX3_around 67 = .ok (.iinc 5 1, 3) := by decide +kernel
theorem dX3_around_70 : decode cX3_around 70 = .ok (.goto (-50), 3) := by decide +kernel
theorem dX3_around_73 : decode cX3_around 73 = .ok (.iinc 4 1, 3) := by decide +kernel
theorem dX3_around_76 : decode cX3_around 76 = .ok (.goto (-69), 3) := by decide +kernel
theorem dX3_around_79 : decode cX3_around 79 = .ok (.iload_n 3, 1) := by decide +kernel
theorem dX3_around_80 : decode cX3_around 80 = .ok (.ireturn, 1) := by decide +kernel
theorem dX3_noiseSum_0 : decode cX3_noiseSum 0 = .ok (.iconst 0, 1) := by decide +kernel
theorem dX3_noiseSum_1 : decode cX3_noiseSum 1 = .ok (.istore_n 1, 1) := by decide +kernel
theorem dX3_noiseSum_2 : decode cX3_noiseSum 2 = .ok (.aload_n 0, 1) := by decide +kernel
theorem dX3_noiseSum_3 : decode cX3_noiseSum 3 = .ok (.getfield 11, 3) := by decide +kernel
theorem dX3_noiseSum_6 : decode cX3_noiseSum 6 = .ok (.astore_n 2, 1) := by decide +kernel
theorem dX3_noiseSum_7 : decode cX3_noiseSum 7 = .ok (.aload_n 2, 1) := by decide +kernel
theorem dX3_noiseSum_8 : decode cX3_noiseSum 8 = .ok (.arraylength, 1) := by decide +kernel
theorem dX3_noiseSum_9 : decode cX3_noiseSum 9 = .ok (.istore_n 3, 1) := by decide +kernel
theorem dX3_noiseSum_10 : decode cX3_noiseSum 10 = .ok (.iconst 0, 1) := by decide +kernel
theorem dX3_noiseSum_11 : decode cX3_noiseSum 11 = .ok (.istore 4, 2) := by decide +kernel
theorem dX3_noiseSum_13 : decode cX3_noiseSum 13 = .ok (.iload 4, 2) := by decide +kernel
theorem dX3_noiseSum_15 : decode cX3_noiseSum 15 = .ok (.iload_n 3, 1) := by decide +kernel
theorem dX3_noiseSum_16 : decode cX3_noiseSum 16 = .ok (.if_icmp .ge 23, 3) := by decide +kernel
theorem dX3_noiseSum_19 : decode cX3_noiseSum 19 = .ok (.aload_n 2, 1) := by decide +kernel
theorem dX3_noiseSum_20 : decode cX3_noiseSum 20 = .ok (.iload 4, 2) := by decide +kernel
theorem dX3_noiseSum_22 : decode cX3_noiseSum 22 = .ok (.aaload, 1) := by decide +kernel
theorem dX3_noiseSum_23 : decode cX3_noiseSum 23 = .ok (.astore 5, 2) := by decide +kernel
theorem dX3_noiseSum_25 : decode cX3_noiseSum 25 = .ok (.iload_n 1, 1) := by decide +kernel
theorem dX3_noiseSum_26 : decode cX3_noiseSum 26 = .ok (.aload 5, 2) := by decide +kernel
theorem dX3_noiseSum_28 : decode cX3_noiseSum 28 = .ok (.getfield 43, 3) := by decide +kernel
theorem dX3_noiseSum_31 : decode cX3_noiseSum 31 = .ok (.iadd, 1) := by decide +kernel
theorem dX3_noiseSum_32 : decode cX3_noiseSum 32 = .ok (.istore_n 1, 1) := by decide +kernel
theorem dX3_noiseSum_33 : decode cX3_noiseSum 33 = .ok (.iinc 4 1, 3) := by decide +kernel
theorem dX3_noiseSum_36 : decode cX3_noiseSum 36 = .ok (.goto (-23), 3) := by decide +kernel
theorem dX3_noiseSum_39 : decode cX3_noiseSum 39 = .ok (.iload_n 1, 1) := by decide +kernel
theorem dX3_noiseSum_40 : decode cX3_noiseSum 40 = .ok (.ireturn, 1) := by decide +kernel
theorem dX3_countJoined_0 : decode cX3_countJoined 0 = .ok (.iconst 0, 1) := by decide +kernel
theorem dX3_countJoined_1 : decode cX3_countJoined 1 = .ok (.istore_n 1, 1) := by decide +kernel
theorem dX3_countJoined_2 : decode cX3_countJoined 2 = .ok (.aload_n 0, 1) := by decide +kernel
theorem dX3_countJoined_3 : decode cX3_countJoined 3 = .ok (.getfield 11, 3) := by decide +kernel
theorem dX3_countJoined_6 : decode cX3_countJoined 6 = .ok (.astore_n 2, 1) := by decide +kernel
theorem dX3_countJoined_7 : decode cX3_countJoined 7 = .ok (.aload_n 2, 1) := by decide +kernel
theorem dX3_countJoined_8 : decode cX3_countJoined 8 = .ok (.arraylength, 1) := by decide +kernel
theorem dX3_countJoined_9 : decode cX3_countJoined 9 = .ok (.istore_n 3, 1) := by decide +kernel
theorem dX3_countJoined_10 : decode cX3_countJoined 10 = .ok (.iconst 0, 1) := by decide +kernel
theorem dX3_countJoined_11 : decode cX3_countJoined 11 = .ok (.istore 4, 2) := by decide +kernel
theorem dX3_countJoined_13 : decode cX3_countJoined 13 = .ok (.iload 4, 2) := by decide +kernel
theorem dX3_countJoined_15 : decode cX3_countJoined 15 = .ok (.iload_n 3, 1) := by decide +kernel
theorem dX3_countJoined_16 : decode cX3_countJoined 16 = .ok (.if_icmp .ge 26, 3) := by decide +kernel
theorem dX3_countJoined_19 : decode cX3_countJoined 19 = .ok (.aload_n 2, 1) := by decide +kernel
theorem dX3_countJoined_20 : decode cX3_countJoined 20 = .ok (.iload 4, 2) := by decide +kernel
theorem dX3_countJoined_22 : decode cX3_countJoined 22 = .ok (.aaload, 1) := by decide +kernel
theorem dX3_countJoined_23 : decode cX3_countJoined 23 = .ok (.astore 5, 2) := by decide +kernel
theorem dX3_countJoined_25 : decode cX3_countJoined 25 = .ok (.aload 5, 2) := by decide +kernel
theorem dX3_countJoined_27 : decode cX3_countJoined 27 = .ok (.getfield 46, 3) := by decide +kernel
theorem dX3_countJoined_30 : decode cX3_countJoined 30 = .ok (.ifCond .eq 6, 3) := by decide +kernel
theorem dX3_countJoined_33 : decode cX3_countJoined 33 = .ok (.iinc 1 1, 3) := by decide +kernel
theorem dX3_countJoined_36 : decode cX3_countJoined 36 = .ok (.iinc 4 1, 3) := by decide +kernel
theorem dX3_countJoined_39 : decode cX3_countJoined 39 = .ok (.goto (-26), 3) := by decide +kernel
theorem dX3_countJoined_42 : decode cX3_countJoined 42 = .ok (.iload_n 1, 1) := by decide +kernel
theorem dX3_countJoined_43 : decode cX3_countJoined 43 = .ok (.ireturn, 1) := by decide +kernel
theorem dX3_countSeated_0 : decode cX3_countSeated 0 = .ok (.iconst 0, 1) := by decide +kernel
theorem dX3_countSeated_1 : decode cX3_countSeated 1 = .ok (.istore_n 2, 1) := by decide +kernel
theorem dX3_countSeated_2 : decode cX3_countSeated 2 = .ok (.aload_n 0, 1) := by decide +kernel
theorem dX3_countSeated_3 : decode cX3_countSeated 3 = .ok (.getfield 11, 3) := by decide +kernel
theorem dX3_countSeated_6 : decode cX3_countSeated 6 = .ok (.astore_n 3, 1) := by decide +kernel
theorem dX3_countSeated_7 : decode cX3_countSeated 7 = .ok (.aload_n 3, 1) := by decide +kernel
theorem dX3_countSeated_8 : decode cX3_countSeated 8 = .ok (.arraylength, 1) := by decide +kernel
theorem dX3_countSeated_9 : decode cX3_countSeated 9 = .ok (.istore 4, 2) := by decide +kernel
theorem dX3_countSeated_11 : decode cX3_countSeated 11 = .ok (.iconst 0, 1) := by decide +kernel
theorem dX3_countSeated_12 : decode cX3_countSeated 12 = .ok (.istore 5, 2) := by decide +kernel
theorem dX3_countSeated_14 : decode cX3_countSeated 14 = .ok (.iload 5, 2) := by decide +kernel
theorem dX3_countSeated_16 : decode cX3_countSeated 16 = .ok (.iload 4, 2) := by decide +kernel
theorem dX3_countSeated_18 : decode cX3_countSeated 18 = .ok (.if_icmp .ge 27, 3) := by decide +kernel
theorem dX3_countSeated_21 : decode cX3_countSeated 21 = .ok (.aload_n 3, 1) := by decide +kernel
theorem dX3_countSeated_22 : decode cX3_countSeated 22 = .ok (.iload 5, 2) := by decide +kernel
theorem dX3_countSeated_24 : decode cX3_countSeated 24 = .ok (.aaload, 1) := by decide +kernel
theorem dX3_countSeated_25 : decode cX3_countSeated 25 = .ok (.astore 6, 2) := by decide +kernel
theorem dX3_countSeated_27 : decode cX3_countSeated 27 = .ok (.aload 6, 2) := by decide +kernel
theorem dX3_countSeated_29 : decode cX3_countSeated 29 = .ok (.getfield 50, 3) := by decide +kernel
theorem dX3_countSeated_32 : decode cX3_countSeated 32 = .ok (.iload_n 1, 1) := by decide +kernel
theorem dX3_countSeated_33 : decode cX3_countSeated 33 = .ok (.if_icmp .ne 6, 3) := by decide +kernel
theorem dX3_countSeated_36 : decode cX3_countSeated 36 = .ok (.iinc 2 1, 3) := by decide +kernel
theorem dX3_countSeated_39 : decode cX3_countSeated 39 = .ok (.iinc 5 1, 3) := by decide +kernel
theorem dX3_countSeated_42 : decode cX3_countSeated 42 = .ok (.goto (-28), 3) := by decide +kernel
theorem dX3_countSeated_45 : decode cX3_countSeated 45 = .ok (.iload_n 2, 1) := by decide +kernel
theorem dX3_countSeated_46 : decode cX3_countSeated 46 = .ok (.ireturn, 1) := by decide +kernel
theorem dX3_countNoisy_0 : decode cX3_countNoisy 0 = .ok (.iconst 0, 1) := by decide +kernel
theorem dX3_countNoisy_1 : decode cX3_countNoisy 1 = .ok (.istore_n 2, 1) := by decide +kernel
theorem dX3_countNoisy_2 : decode cX3_countNoisy 2 = .ok (.aload_n 0, 1) := by decide +kernel
theorem dX3_countNoisy_3 : decode cX3_countNoisy 3 = .ok (.getfield 11, 3) := by decide +kernel
theorem dX3_countNoisy_6 : decode cX3_countNoisy 6 = .ok (.astore_n 3, 1) := by decide +kernel
theorem dX3_countNoisy_7 : decode cX3_countNoisy 7 = .ok (.aload_n 3, 1) := by decide +kernel
theorem dX3_countNoisy_8 : decode cX3_countNoisy 8 = .ok (.arraylength, 1) := by decide +kernel
theorem dX3_countNoisy_9 : decode cX3_countNoisy 9 = .ok (.istore 4, 2) := by decide +kernel
theorem dX3_countNoisy_11 : decode cX3_countNoisy 11 = .ok (.iconst 0, 1) := by decide +kernel
theorem dX3_countNoisy_12 : decode cX3_countNoisy 12 = .ok (.istore 5, 2) := by decide +kernel
theorem dX3_countNoisy_14 : decode cX3_countNoisy 14 = .ok (.iload 5, 2) := by decide +kernel
theorem dX3_countNoisy_16 : decode cX3_countNoisy 16 = .ok (.iload 4, 2) := by decide +kernel
theorem dX3_countNoisy_18 : decode cX3_countNoisy 18 = .ok (.if_icmp .ge 35, 3) := by decide +kernel
theorem dX3_countNoisy_21 : decode cX3_countNoisy 21 = .ok (.aload_n 3, 1) := by decide +kernel
theorem dX3_countNoisy_22 : decode cX3_countNoisy 22 = .ok (.iload 5, 2) := by decide +kernel
theorem dX3_countNoisy_24 : decode cX3_countNoisy 24 = .ok (.aaload, 1) := by decide +kernel
theorem dX3_countNoisy_25 : decode cX3_countNoisy 25 = .ok (.astore 6, 2) := by decide +kernel
theorem dX3_countNoisy_27 : decode cX3_countNoisy 27 = .ok (.aload 6, 2) := by decide +kernel
theorem dX3_countNoisy_29 : decode cX3_countNoisy 29 = .ok (.getfield 50, 3) := by decide +kernel
theorem dX3_countNoisy_32 : decode cX3_countNoisy 32 = .ok (.iload_n 1, 1) := by decide +kernel
theorem dX3_countNoisy_33 : decode cX3_countNoisy 33 = .ok (.if_icmp .ne 14, 3) := by decide +kernel
theorem dX3_countNoisy_36 : decode cX3_countNoisy 36 = .ok (.aload 6, 2) := by decide +kernel
theorem dX3_countNoisy_38 : decode cX3_countNoisy 38 = .ok (.getfield 43, 3) := by decide +kernel
theorem dX3_countNoisy_41 : decode cX3_countNoisy 41 = .ok (.ifCond .le 6, 3) := by decide +kernel
theorem dX3_countNoisy_44 : decode cX3_countNoisy 44 = .ok (.iinc 2 1, 3) := by decide +kernel
theorem dX3_countNoisy_47 : decode cX3_countNoisy 47 = .ok (.iinc 5 1, 3) := by decide +kernel
theorem dX3_countNoisy_50 : decode cX3_countNoisy 50 = .ok (.goto (-36), 3) := by decide +kernel
theorem dX3_countNoisy_53 : decode cX3_countNoisy 53 = .ok (.iload_n 2, 1) := by decide +kernel
theorem dX3_countNoisy_54 : decode cX3_countNoisy 54 = .ok (.ireturn, 1) := by decide +kernel
theorem dX3_isInOrder_0 : decode cX3_isInOrder 0 = .ok (.aload_n 0, 1) := by decide +kernel
theorem dX3_isInOrder_1 : decode cX3_isInOrder 1 = .ok (.getfield 11, 3) := by decide +kernel
theorem dX3_isInOrder_4 : decode cX3_isInOrder 4 = .ok (.astore_n 1, 1) := by decide +kernel
theorem dX3_isInOrder_5 : decode cX3_isInOrder 5 = .ok (.aload_n 1, 1) := by decide +kernel
theorem dX3_isInOrder_6 : decode cX3_isInOrder 6 = .ok (.arraylength, 1) := by decide +kernel
theorem dX3_isInOrder_7 : decode cX3_isInOrder 7 = .ok (.istore_n 2, 1) := by decide +kernel
theorem dX3_isInOrder_8 : decode cX3_isInOrder 8 = .ok (.iconst 0, 1) := by decide +kernel
theorem dX3_isInOrder_9 : decode cX3_isInOrder 9 = .ok (.istore_n 3, 1) := by decide +kernel
theorem dX3_isInOrder_10 : decode cX3_isInOrder 10 = .ok (.iload_n 3, 1) := by decide +kernel
theorem dX3_isInOrder_11 : decode cX3_isInOrder 11 = .ok (.iload_n 2, 1) := by decide +kernel
theorem dX3_isInOrder_12 : decode cX3_isInOrder 12 = .ok (.if_icmp .ge 24, 3) := by decide +kernel
theorem dX3_isInOrder_15 : decode cX3_isInOrder 15 = .ok (.aload_n 1, 1) := by decide +kernel
theorem dX3_isInOrder_16 : decode cX3_isInOrder 16 = .ok (.iload_n 3, 1) := by decide +kernel
theorem dX3_isInOrder_17 : decode cX3_isInOrder 17 = .ok (.aaload, 1) := by decide +kernel
theorem dX3_isInOrder_18 : decode cX3_isInOrder 18 = .ok (.astore 4, 2) := by decide +kernel
theorem dX3_isInOrder_20 : decode cX3_isInOrder 20 = .ok (.aload 4, 2) := by decide +kernel
theorem dX3_isInOrder_22 : decode cX3_isInOrder 22 = .ok (.invokevirtual 54, 3) := by decide +kernel
theorem dX3_isInOrder_25 : decode cX3_isInOrder 25 = .ok (.ifCond .ne 5, 3) := by decide +kernel
theorem dX3_isInOrder_28 : decode cX3_isInOrder 28 = .ok (.iconst 0, 1) := by decide +kernel
theorem dX3_isInOrder_29 : decode cX3_isInOrder 29 = .ok (.ireturn, 1) := by decide +kernel
theorem dX3_isInOrder_30 : decode cX3_isInOrder 30 = .ok (.iinc 3 1, 3) := by decide +kernel
theorem dX3_isInOrder_33 : decode cX3_isInOrder 33 = .ok (.goto (-23), 3) := by decide +kernel
theorem dX3_isInOrder_36 : decode cX3_isInOrder 36 = .ok (.iconst 1, 1) := by decide +kernel
theorem dX3_isInOrder_37 : decode cX3_isInOrder 37 = .ok (.ireturn, 1) := by decide +kernel
theorem dX4_init_0 : decode cX4_init 0 = .ok (.aload_n 0, 1) := by decide +kernel
theorem dX4_init_1 : decode cX4_init 1 = .ok (.invokespecial 3, 3) := by decide +kernel
theorem dX4_init_4 : decode cX4_init 4 = .ok (.aload_n 0, 1) := by decide +kernel
theorem dX4_init_5 : decode cX4_init 5 = .ok (.bipush 46, 2) := by decide +kernel
theorem dX4_init_7 : decode cX4_init 7 = .ok (.putfield 9, 3) := by decide +kernel
theorem dX4_init_10 : decode cX4_init 10 = .ok (.aload_n 0, 1) := by decide +kernel
theorem dX4_init_11 : decode cX4_init 11 = .ok (.iconst 0, 1) := by decide +kernel
theorem dX4_init_12 : decode cX4_init 12 = .ok (.putfield 15, 3) := by decide +kernel
theorem dX4_init_15 : decode cX4_init 15 = .ok (.aload_n 0, 1) := by decide +kernel
theorem dX4_init_16 : decode cX4_init 16 = .ok (.aconst_null, 1) := by decide +kernel
theorem dX4_init_17 : decode cX4_init 17 = .ok (.putfield 19, 3) := by decide +kernel
theorem dX4_init_20 : decode cX4_init 20 = .ok (.aload_n 0, 1) := by decide +kernel
theorem dX4_init_21 : decode cX4_init 21 = .ok (.iconst 0, 1) := by decide +kernel
theorem dX4_init_22 : decode cX4_init 22 = .ok (.putfield 23, 3) := by decide +kernel
theorem dX4_init_25 : decode cX4_init 25 = .ok (.aload_n 0, 1) := by decide +kernel
theorem dX4_init_26 : decode cX4_init 26 = .ok (.iconst 0, 1) := by decide +kernel
theorem dX4_init_27 : decode cX4_init 27 = .ok (.putfield 26, 3) := by decide +kernel
theorem dX4_init_30 : decode cX4_init 30 = .ok (.aload_n 0, 1) := by decide +kernel
theorem dX4_init_31 : decode cX4_init 31 = .ok (.iconst 0, 1) := by decide +kernel
theorem dX4_init_32 : decode cX4_init 32 = .ok (.putfield 29, 3) := by decide +kernel
theorem dX4_init_35 : decode cX4_init 35 = .ok (.aload_n 0, 1) := by decide +kernel
theorem dX4_init_36 : decode cX4_init 36 = .ok (.iconst 0, 1) := by decide +kernel
theorem dX4_init_37 : decode cX4_init 37 = .ok (.putfield 33, 3) := by decide +kernel
theorem dX4_init_40 : decode cX4_init 40 = .ok (.aload_n 0, 1) := by decide +kernel
theorem dX4_init_41 : decode cX4_init 41 = .ok (.iconst 0, 1) := by decide +kernel
theorem dX4_init_42 : decode cX4_init 42 = .ok (.putfield 36, 3) := by decide +kernel
theorem dX4_init_45 : decode cX4_init 45 = .ok (.aload_n 0, 1) := by decide +kernel
theorem dX4_init_46 : decode cX4_init 46 = .ok (.iconst 0, 1) := by decide +kernel
theorem dX4_init_47 : decode cX4_init 47 = .ok (.putfield 39, 3) := by decide +kernel
theorem dX4_init_50 : decode cX4_init 50 = .ok (.return_, 1) := by decide +kernel
theorem dX4_take_0 : decode cX4_take 0 = .ok (.aload_n 0, 1) := by decide +kernel
theorem dX4_take_1 : decode cX4_take 1 = .ok (.getfield 9, 3) := by decide +kernel
theorem dX4_take_4 : decode cX4_take 4 = .ok (.istore_n 2, 1) := by decide +kernel
theorem dX4_take_5 : decode cX4_take 5 = .ok (.aload_n 0, 1) := by decide +kernel
theorem dX4_take_6 : decode cX4_take 6 = .ok (.getfield 19, 3) := by decide +kernel
theorem dX4_take_9 : decode cX4_take 9 = .ok (.ifnull 16, 3) := by decide +kernel
theorem dX4_take_12 : decode cX4_take 12 = .ok (.aload_n 0, 1) := by decide +kernel
theorem dX4_take_13 : decode cX4_take 13 = .ok (.getfield 19, 3) := by decide +kernel
theorem dX4_take_16 : decode cX4_take 16 = .ok (.aconst_null, 1) := by decide +kernel
theorem dX4_take_17 : decode cX4_take 17 = .ok (.putfield 42, 3) := by decide +kernel
theorem dX4_take_20 : decode cX4_take 20 = .ok (.aload_n 0, 1) := by decide +kernel
theorem dX4_take_21 : decode cX4_take 21 = .ok (.aconst_null, 1) := by decide +kernel
theorem dX4_take_22 : decode cX4_take 22 = .ok (.putfield 19, 3) := by decide +kernel
theorem dX4_take_25 : decode cX4_take 25 = .ok (.aload_n 0, 1) := by decide +kernel
theorem dX4_take_26 : decode cX4_take 26 = .ok (.iload_n 1, 1) := by decide +kernel
theorem dX4_take_27 : decode cX4_take 27 = .ok (.putfield 9, 3) := by decide +kernel
theorem dX4_take_30 : decode cX4_take 30 = .ok (.aload_n 0, 1) := by decide +kernel
theorem dX4_take_31 : decode cX4_take 31 = .ok (.iconst 0, 1) := by decide +kernel
theorem dX4_take_32 : decode cX4_take 32 = .ok (.putfield 15, 3) := by decide +kernel
theorem dX4_take_35 : decode cX4_take 35 = .ok (.aload_n 0, 1) := by decide +kernel
theorem dX4_take_36 : decode cX4_take 36 = .ok (.invokevirtual 48, 3) := by decide +kernel
theorem dX4_take_39 : decode cX4_take 39 = .ok (.iload_n 2, 1) := by decide +kernel
theorem dX4_take_40 : decode cX4_take 40 = .ok (.ireturn, 1) := by decide +kernel
theorem dX4_forgetEvening_0 : decode cX4_forgetEvening 0 = .ok (.aload_n 0, 1) := by decide +kernel
theorem dX4_forgetEvening_1 : decode cX4_forgetEvening 1 = .ok (.iconst 0, 1) := by decide +kernel
theorem dX4_forgetEvening_2 : decode cX4_forgetEvening 2 = .ok (.putfield 23, 3) := by decide +kernel
theorem dX4_forgetEvening_5 : decode cX4_forgetEvening 5 = .ok (.aload_n 0, 1) := by decide +kernel
theorem dX4_forgetEvening_6 : decode cX4_forgetEvening 6 = .ok (.iconst 0, 1) := by decide +kernel
theorem dX4_forgetEvening_7 : decode cX4_forgetEvening 7 = .ok (.putfield 29, 3) := by decide +kernel
theorem dX4_forgetEvening_10 : decode cX4_forgetEvening 10 = .ok (.aload_n 0, 1) := by decide +kernel
theorem dX4_forgetEvening_11 : decode cX4_forgetEvening 11 = .ok (.iconst 0, 1) := by decide +kernel
theorem dX4_forgetEvening_12 : decode cX4_forgetEvening 12 = .ok (.putfield 33, 3) := by decide +kernel
theorem dX4_forgetEvening_15 : decode cX4_forgetEvening 15 = .ok (.aload_n 0, 1) := by decide +kernel
theorem dX4_forgetEvening_16 : decode cX4_forgetEvening 16 = .ok (.iconst 0, 1) := by decide +kernel
theorem dX4_forgetEvening_17 : decode cX4_forgetEvening 17 = .ok (.putfield 36, 3) := by decide +kernel
theorem dX4_forgetEvening_20 : decode cX4_forgetEvening 20 = .ok (.return_, 1) := by decide +kernel
theorem dX4_keepTickAhead_0 : decode cX4_keepTickAhead 0 = .ok (.aload_n 0, 1) := by decide +kernel
theorem dX4_keepTickAhead_1 : decode cX4_keepTickAhead 1 = .ok (.aload_n 0, 1) := by decide +kernel
theorem dX4_keepTickAhead_2 : decode cX4_keepTickAhead 2 = .ok (.getfield 23, 3) := by decide +kernel
theorem dX4_keepTickAhead_5 : decode cX4_keepTickAhead 5 = .ok (.putfield 26, 3) := by decide +kernel
theorem dX4_keepTickAhead_8 : decode cX4_keepTickAhead 8 = .ok (.aload_n 0, 1) := by decide +kernel
theorem dX4_keepTickAhead_9 : decode cX4_keepTickAhead 9 = .ok (.aload_n 0, 1) := by decide +kernel
theorem dX4_keepTickAhead_10 : decode cX4_keepTickAhead 10 = .ok (.getfield 36, 3) := by decide +kernel
theorem dX4_keepTickAhead_13 : decode cX4_keepTickAhead 13 = .ok (.putfield 39, 3) := by decide +kernel
theorem dX4_keepTickAhead_16 : decode cX4_keepTickAhead 16 = .ok (.return_, 1) := by decide +kernel
theorem dX4_heardByNeighbours_0 : decode cX4_heardByNeighbours 0 = .ok (.aload_n 0, 1) := by decide +kernel
theorem dX4_heardByNeighbours_1 : decode cX4_heardByNeighbours 1 = .ok (.getfield 39, 3) := by decide +kernel
theorem dX4_heardByNeighbours_4 : decode cX4_heardByNeighbours 4 = .ok (.ifCond .eq 12, 3) := by decide +kernel
theorem dX4_heardByNeighbours_7 : decode cX4_heardByNeighbours 7 = .ok (.aload_n 0, 1) := by decide +kernel
theorem dX4_heardByNeighbours_8 : decode cX4_heardByNeighbours 8 = .ok (.getfield 26, 3) := by decide +kernel
theorem dX4_heardByNeighbours_11 : decode cX4_heardByNeighbours 11 = .ok (.iconst 4, 1) := by decide +kernel
theorem dX4_heardByNeighbours_12 : decode cX4_heardByNeighbours 12 = .ok (.isub, 1) := by decide +kernel
theorem dX4_heardByNeighbours_13 : decode cX4_heardByNeighbours 13 = .ok (.goto 7, 3) := by decide +kernel
theorem dX4_heardByNeighbours_16 : decode cX4_heardByNeighbours 16 = .ok (.aload_n 0, 1) := by decide +kernel
theorem dX4_heardByNeighbours_17 : decode cX4_heardByNeighbours 17 = .ok (.getfield 26, 3) := by decide +kernel
theorem dX4_heardByNeighbours_20 : decode cX4_heardByNeighbours 20 = .ok (.ireturn, 1) := by decide +kernel
theorem dX4_tirednessNow_0 : decode cX4_tirednessNow 0 = .ok (.aload_n 0, 1) := by decide +kernel
theorem dX4_tirednessNow_1 : decode cX4_tirednessNow 1 = .ok (.getfield 33, 3) := by decide +kernel
theorem dX4_tirednessNow_4 : decode cX4_tirednessNow 4 = .ok (.bipush 10, 2) := by decide +kernel
theorem dX4_tirednessNow_6 : decode cX4_tirednessNow 6 = .ok (.idiv, 1) := by decide +kernel
theorem dX4_tirednessNow_7 : decode cX4_tirednessNow 7 = .ok (.ireturn, 1) := by decide +kernel
theorem dX4_soundAsPayer_0 : decode cX4_soundAsPayer 0 = .ok (.aload_n 0, 1) := by decide +kernel
theorem dX4_soundAsPayer_1 : decode cX4_soundAsPayer 1 = .ok (.iload_n 1, 1) := by decide +kernel
theorem dX4_soundAsPayer_2 : decode cX4_soundAsPayer 2 = .ok (.iconst 3, 1) := by decide +kernel
theorem dX4_soundAsPayer_3 : decode cX4_soundAsPayer 3 = .ok (.aload_n 0, 1) := by decide +kernel
theorem dX4_soundAsPayer_4 : decode cX4_soundAsPayer 4 = .ok (.getfield 15, 3) := by decide +kernel
theorem dX4_soundAsPayer_7 : decode cX4_soundAsPayer 7 = .ok (.aload_n 0, 1) := by decide +kernel
theorem dX4_soundAsPayer_8 : decode cX4_soundAsPayer 8 = .ok (.invokevirtual 51, 3) := by decide +kernel
theorem dX4_soundAsPayer_11 : decode cX4_soundAsPayer 11 = .ok (.iadd, 1) := by decide +kernel
theorem dX4_soundAsPayer_12 : decode cX4_soundAsPayer 12 = .ok (.imul, 1) := by decide +kernel
theorem dX4_soundAsPayer_13 : decode cX4_soundAsPayer 13 = .ok (.if_icmp .lt 7, 3) := by decide +kernel
theorem dX4_soundAsPayer_16 : decode cX4_soundAsPayer 16 = .ok (.iconst 1, 1) := by decide +kernel
theorem dX4_soundAsPayer_17 : decode cX4_soundAsPayer 17 = .ok (.goto 4, 3) := by decide +kernel
theorem dX4_soundAsPayer_20 : decode cX4_soundAsPayer 20 = .ok (.iconst 0, 1) := by decide +kernel
theorem dX4_soundAsPayer_21 : decode cX4_soundAsPayer 21 = .ok (.putfield 29, 3) := by decide +kernel
theorem dX4_soundAsPayer_24 : decode cX4_soundAsPayer 24 = .ok (.aload_n 0, 1) := by decide +kernel
theorem dX4_soundAsPayer_25 : decode cX4_soundAsPayer 25 = .ok (.getfield 29, 3) := by decide +kernel
theorem dX4_soundAsPayer_28 : decode cX4_soundAsPayer 28 = .ok (.ifCond .eq 32, 3) := by decide +kernel
theorem dX4_soundAsPayer_31 : decode cX4_soundAsPayer 31 = .ok (.aload_n 0, 1) := by decide +kernel
theorem dX4_soundAsPayer_32 : decode cX4_soundAsPayer 32 = .ok (.dup, 1) := by decide +kernel
theorem dX4_soundAsPayer_33 : decode cX4_soundAsPayer 33 = .ok (.getfield 33, 3) := by decide +kernel
theorem dX4_soundAsPayer_36 : decode cX4_soundAsPayer 36 = .ok (.iconst 1, 1) := by decide +kernel
theorem dX4_soundAsPayer_37 : decode cX4_soundAsPayer 37 = .ok (.iadd, 1) := by decide +kernel
theorem dX4_soundAsPayer_38 : decode cX4_soundAsPayer 38 = .ok (.putfield 33, 3) := by decide +kernel
theorem dX4_soundAsPayer_41 : decode cX4_soundAsPayer 41 = .ok (.aload_n 0, 1) := by decide +kernel
theorem dX4_soundAsPayer_42 : decode cX4_soundAsPayer 42 = .ok (.iconst 1, 1) := by decide +kernel
theorem dX4_soundAsPayer_43 : decode cX4_soundAsPayer 43 = .ok (.bipush 9, 2) := by decide +kernel
theorem dX4_soundAsPayer_45 : decode cX4_soundAsPayer 45 = .ok (.iload_n 1, 1) := by decide +kernel
theorem dX4_soundAsPayer_46 : decode cX4_soundAsPayer 46 = .ok (.iconst 4, 1) := by decide +kernel
theorem dX4_soundAsPayer_47 : decode cX4_soundAsPayer 47 = .ok (.idiv, 1) := by decide +kernel
theorem dX4_soundAsPayer_48 : decode cX4_soundAsPayer 48 = .ok (.invokestatic 55, 3) := by decide +kernel
theorem dX4_soundAsPayer_51 : decode cX4_soundAsPayer 51 = .ok (.invokestatic 61, 3) := by decide +kernel
theorem dX4_soundAsPayer_54 : decode cX4_soundAsPayer 54 = .ok (.putfield 23, 3) := by decide +kernel
theorem dX4_soundAsPayer_57 : decode cX4_soundAsPayer 57 = .ok (.goto 17, 3) := by decide +kernel
theorem dX4_soundAsPayer_60 : decode cX4_soundAsPayer 60 = .ok (.aload_n 0, 1) := by decide +kernel
theorem dX4_soundAsPayer_61 : decode cX4_soundAsPayer 61 = .ok (.iconst 0, 1) := by decide +kernel
theorem dX4_soundAsPayer_62 : decode cX4_soundAsPayer 62 = .ok (.aload_n 0, 1) := by decide +kernel
theorem dX4_soundAsPayer_63 : decode cX4_soundAsPayer 63 = .ok (.getfield 26, 3) := by decide +kernel
theorem dX4_soundAsPayer_66 : decode cX4_soundAsPayer 66 = .ok (.iconst 1, 1) := by decide +kernel
theorem dX4_soundAsPayer_67 : decode cX4_soundAsPayer 67 = .ok (.isub, 1) := by decide +kernel
theorem dX4_soundAsPayer_68 : decode cX4_soundAsPayer 68 = .ok (.invokestatic 61, 3) := by decide +kernel
theorem dX4_soundAsPayer_71 : decode cX4_soundAsPayer 71 = .ok (.putfield 23, 3) := by decide +kernel
theorem dX4_soundAsPayer_74 : decode cX4_soundAsPayer 74 = .ok (.return_, 1) := by decide +kernel
theorem dX4_isInOrder_0 : decode cX4_isInOrder 0 = .ok (.aload_n 0, 1) := by decide +kernel
theorem dX4_isInOrder_1 : decode cX4_isInOrder 1 = .ok (.getfield 19, 3) := by decide +kernel
theorem dX4_isInOrder_4 : decode cX4_isInOrder 4 = .ok (.ifnonnull 20, 3) := by decide +kernel
theorem dX4_isInOrder_7 : decode cX4_isInOrder 7 = .ok (.aload_n 0, 1) := by decide +kernel
theorem dX4_isInOrder_8 : decode cX4_isInOrder 8 = .ok (.getfield 9, 3) := by decide +kernel
theorem dX4_isInOrder_11 : decode cX4_isInOrder 11 = .ok (.bipush 104, 2) := by decide +kernel
theorem dX4_isInOrder_13 : decode cX4_isInOrder 13 = .ok (.if_icmp .eq 7, 3) := by decide +kernel
theorem dX4_isInOrder_16 : decode cX4_isInOrder 16 = .ok (.iconst 1, 1) := by decide +kernel
theorem dX4_isInOrder_17 : decode cX4_isInOrder 17 = .ok (.goto 32, 3) := by decide +kernel
theorem dX4_isInOrder_20 : decode cX4_isInOrder 20 = .ok (.iconst 0, 1) := by decide +kernel
theorem dX4_isInOrder_21 : decode cX4_isInOrder 21 = .ok (.goto 28, 3) := by decide +kernel
theorem dX4_isInOrder_24 : decode cX4_isInOrder 24 = .ok (.aload_n 0, 1) := by decide +kernel
theorem dX4_isInOrder_25 : decode cX4_isInOrder 25 = .ok (.getfield 9, 3) := by decide +kernel
theorem dX4_isInOrder_28 : decode cX4_isInOrder 28 = .ok (.bipush 104, 2) := by decide +kernel
theorem dX4_isInOrder_30 : decode cX4_isInOrder 30 = .ok (.if_icmp .ne 18, 3) := by decide +kernel
theorem dX4_isInOrder_33 : decode cX4_isInOrder 33 = .ok (.aload_n 0, 1) := by decide +kernel
theorem dX4_isInOrder_34 : decode cX4_isInOrder 34 = .ok (.getfield 19, 3) := by decide +kernel
theorem dX4_isInOrder_37 : decode cX4_isInOrder 37 = .ok (.getfield 42, 3) := by decide +kernel
theorem dX4_isInOrder_40 : decode cX4_isInOrder 40 = .ok (.aload_n 0, 1) := by decide +kernel
theorem dX4_isInOrder_41 : decode cX4_isInOrder 41 = .ok (.if_acmp .ne 7, 3) := by decide +kernel
theorem dX4_isInOrder_44 : decode cX4_isInOrder 44 = .ok (.iconst 1, 1) := by decide +kernel
theorem dX4_isInOrder_45 : decode cX4_isInOrder 45 = .ok (.goto 4, 3) := by decide +kernel
theorem dX4_isInOrder_48 : decode cX4_isInOrder 48 = .ok (.iconst 0, 1) := by decide +kernel
theorem dX4_isInOrder_49 : decode cX4_isInOrder 49 = .ok (.istore_n 1, 1) := by decide +kernel
theorem dX4_isInOrder_50 : decode cX4_isInOrder 50 = .ok (.iload_n 1, 1) := by decide +kernel
theorem dX4_isInOrder_51 : decode cX4_isInOrder 51 = .ok (.ifCond .eq 23, 3) := by decide +kernel
theorem dX4_isInOrder_54 : decode cX4_isInOrder 54 = .ok (.aload_n 0, 1) := by decide +kernel
theorem dX4_isInOrder_55 : decode cX4_isInOrder 55 = .ok (.getfield 23, 3) := by decide +kernel
theorem dX4_isInOrder_58 : decode cX4_isInOrder 58 = .ok (.ifCond .lt 16, 3) := by decide +kernel
theorem dX4_isInOrder_61 : decode cX4_isInOrder 61 = .ok (.aload_n 0, 1) := by decide +kernel
theorem dX4_isInOrder_62 : decode cX4_isInOrder 62 = .ok (.getfield 23, 3) := by decide +kernel
theorem dX4_isInOrder_65 : decode cX4_isInOrder 65 = .ok (.bipush 9, 2) := by decide +kernel
theorem dX4_isInOrder_67 : decode cX4_isInOrder 67 = .ok (.if_icmp .gt 7, 3) := by decide +kernel
theorem dX4_isInOrder_70 : decode cX4_isInOrder 70 = .ok (.iconst 1, 1) := by decide +kernel
theorem dX4_isInOrder_71 : decode cX4_isInOrder 71 = .ok (.goto 4, 3) := by decide +kernel
theorem dX4_isInOrder_74 : decode cX4_isInOrder 74 = .ok (.iconst 0, 1) := by decide +kernel
theorem dX4_isInOrder_75 : decode cX4_isInOrder 75 = .ok (.ireturn, 1) := by decide +kernel
theorem dX5_init_0 : decode cX5_init 0 = .ok (.aload_n 0, 1) := by decide +kernel
theorem dX5_init_1 : decode cX5_init 1 = .ok (.invokespecial 1, 3) := by decide +kernel
theorem dX5_init_4 : decode cX5_init 4 = .ok (.aload_n 0, 1) := by decide +kernel
theorem dX5_init_5 : decode cX5_init 5 = .ok (.iconst 0, 1) := by decide +kernel
theorem dX5_init_6 : decode cX5_init 6 = .ok (.putfield 7, 3) := by decide +kernel
theorem dX5_init_9 : decode cX5_init 9 = .ok (.aload_n 0, 1) := by decide +kernel
theorem dX5_init_10 : decode cX5_init 10 = .ok (.iconst 0, 1) := by decide +kernel
theorem dX5_init_11 : decode cX5_init 11 = .ok (.putfield 13, 3) := by decide +kernel
theorem dX5_init_14 : decode cX5_init 14 = .ok (.aload_n 0, 1) := by decide +kernel
theorem dX5_init_15 : decode cX5_init 15 = .ok (.iload_n 1, 1) := by decide +kernel
theorem dX5_init_16 : decode cX5_init 16 = .ok (.putfield 16, 3) := by decide +kernel
theorem dX5_init_19 : decode cX5_init 19 = .ok (.aload_n 0, 1) := by decide +kernel
theorem dX5_init_20 : decode cX5_init 20 = .ok (.iload_n 2, 1) := by decide +kernel
theorem dX5_init_21 : decode cX5_init 21 = .ok (.putfield 19, 3) := by decide +kernel
theorem dX5_init_24 : decode cX5_init 24 = .ok (.return_, 1) := by decide +kernel
theorem dX6_init_0 : decode cX6_init 0 = .ok (.aload_n 0, 1) := by decide +kernel
theorem dX6_init_1 : decode cX6_init 1 = .ok (.invokespecial 3, 3) := by decide +kernel
theorem dX6_init_4 : decode cX6_init 4 = .ok (.aload_n 0, 1) := by decide +kernel
theorem dX6_init_5 : decode cX6_init 5 = .ok (.new 9, 3) := by decide +kernel
theorem dX6_init_8 : decode cX6_init 8 = .ok (.dup, 1) := by decide +kernel
theorem dX6_init_9 : decode cX6_init 9 = .ok (.invokespecial 11, 3) := by decide +kernel
theorem dX6_init_12 : decode cX6_init 12 = .ok (.putfield 12, 3) := by decide +kernel
theorem dX6_init_15 : decode cX6_init 15 = .ok (.return_, 1) := by decide +kernel
theorem dX6_holds_0 : decode cX6_holds 0 = .ok (.iload_n 0, 1) := by decide +kernel
theorem dX6_holds_1 : decode cX6_holds 1 = .ok (.iload_n 1, 1) := by decide +kernel
theorem dX6_holds_2 : decode cX6_holds 2 = .ok (.ishr, 1) := by decide +kernel
theorem dX6_holds_3 : decode cX6_holds 3 = .ok (.iconst 1, 1) := by decide +kernel
theorem dX6_holds_4 : decode cX6_holds 4 = .ok (.iand, 1) := by decide +kernel
theorem dX6_holds_5 : decode cX6_holds 5 = .ok (.ifCond .eq 7, 3) := by decide +kernel
theorem dX6_holds_8 : decode cX6_holds 8 = .ok (.iconst 1, 1) := by decide +kernel
theorem dX6_holds_9 : decode cX6_holds 9 = .ok (.goto 4, 3) := by decide +kernel
theorem dX6_holds_12 : decode cX6_holds 12 = .ok (.iconst 0, 1) := by decide +kernel
theorem dX6_holds_13 : decode cX6_holds 13 = .ok (.ireturn, 1) := by decide +kernel
theorem dX6_shareOut_0 : decode cX6_shareOut 0 = .ok (.iconst 5, 1) := by decide +kernel
theorem dX6_shareOut_1 : decode cX6_shareOut 1 = .ok (.istore_n 2, 1) := by decide +kernel
theorem dX6_shareOut_2 : decode cX6_shareOut 2 = .ok (.iconst 0, 1) := by decide +kernel
theorem dX6_shareOut_3 : decode cX6_shareOut 3 = .ok (.istore_n 3, 1) := by decide +kernel
theorem dX6_shareOut_4 : decode cX6_shareOut 4 = .ok (.iload_n 3, 1) := by decide +kernel
theorem dX6_shareOut_5 : decode cX6_shareOut 5 = .ok (.aload_n 0, 1) := by decide +kernel
theorem dX6_shareOut_6 : decode cX6_shareOut 6 = .ok (.getfield 12, 3) := by decide +kernel
theorem dX6_shareOut_9 : decode cX6_shareOut 9 = .ok (.invokevirtual 18, 3) := by decide +kernel
theorem dX6_shareOut_12 : decode cX6_shareOut 12 = .ok (.if_icmp .ge 26, 3) := by decide +kernel
theorem dX6_shareOut_15 : decode cX6_shareOut 15 = .ok (.iload_n 2, 1) := by decide +kernel
theorem dX6_shareOut_16 : decode cX6_shareOut 16 = .ok (.aload_n 0, 1) := by decide +kernel
theorem dX6_shareOut_17 : decode cX6_shareOut 17 = .ok (.getfield 12, 3) := by decide +kernel
theorem dX6_shareOut_20 : decode cX6_shareOut 20 = .ok (.iload_n 3, 1) := by decide +kernel
theorem dX6_shareOut_21 : decode cX6_shareOut 21 = .ok (.invokevirtual 22, 3) := by decide +kernel
theorem dX6_shareOut_24 : decode cX6_shareOut 24 = .ok (.checkcast 26, 3) := by decide +kernel
theorem dX6_shareOut_27 : decode cX6_shareOut 27 = .ok (.invokevirtual 28, 3) := by decide +kernel
theorem dX6_shareOut_30 : decode cX6_shareOut 30 = .ok (.iadd, 1) := by decide +kernel
theorem dX6_shareOut_31 : decode cX6_shareOut 31 = .ok (.istore_n 2, 1) := by decide +kernel
theorem dX6_shareOut_32 : decode cX6_shareOut 32 = .ok (.iinc 3 1, 3) := by decide +kernel
theorem dX6_shareOut_35 : decode cX6_shareOut 35 = .ok (.goto (-31), 3) := by decide +kernel
theorem dX6_shareOut_38 : decode cX6_shareOut 38 = .ok (.iload_n 1, 1) := by decide +kernel
theorem dX6_shareOut_39 : decode cX6_shareOut 39 = .ok (.istore_n 3, 1) := by decide +kernel
theorem dX6_shareOut_40 : decode cX6_shareOut 40 = .ok (.iconst 0, 1) := by decide +kernel
theorem dX6_shareOut_41 : decode cX6_shareOut 41 = .ok (.istore 4, 2) := by decide +kernel
theorem dX6_shareOut_43 : decode cX6_shareOut 43 = .ok (.iload 4, 2) := by decide +kernel
theorem dX6_shareOut_45 : decode cX6_shareOut 45 = .ok (.aload_n 0, 1) := by decide +kernel
theorem dX6_shareOut_46 : decode cX6_shareOut 46 = .ok (.getfield 12, 3) := by decide +kernel
theorem dX6_shareOut_49 : decode cX6_shareOut 49 = .ok (.invokevirtual 18, 3) := by decide +kernel
theorem dX6_shareOut_52 : decode cX6_shareOut 52 = .ok (.if_icmp .ge 55, 3) := by decide +kernel
theorem dX6_shareOut_55 : decode cX6_shareOut 55 = .ok (.aload_n 0, 1) := by decide +kernel
theorem dX6_shareOut_56 : decode cX6_shareOut 56 = .ok (.getfield 12, 3) := by decide +kernel
theorem dX6_shareOut_59 : decode cX6_shareOut 59 = .ok (.iload 4, 2) := by decide +kernel
theorem dX6_shareOut_61 : decode cX6_shareOut 61 = .ok (.invokevirtual 22, 3) := by decide +kernel
theorem dX6_shareOut_64 : decode cX6_shareOut 64 = .ok (.checkcast 26, 3) := by decide +kernel
theorem dX6_shareOut_67 : decode cX6_shareOut 67 = .ok (.astore 5, 2) := by decide +kernel
theorem dX6_shareOut_69 : decode cX6_shareOut 69 = .ok (.iload_n 1, 1) := by decide +kernel
theorem dX6_shareOut_70 : decode cX6_shareOut 70 = .ok (.i2l, 1) := by decide +kernel
theorem dX6_shareOut_71 : decode cX6_shareOut 71 = .ok (.aload 5, 2) := by decide +kernel
theorem dX6_shareOut_73 : decode cX6_shareOut 73 = .ok (.invokevirtual 28, 3) := by decide +kernel
theorem dX6_shareOut_76 : decode cX6_shareOut 76 = .ok (.i2l, 1) := by decide +kernel
theorem dX6_shareOut_77 : decode cX6_shareOut 77 = .ok (.lmul, 1) := by decide +kernel
theorem dX6_shareOut_78 : decode cX6_shareOut 78 = .ok (.iload_n 2, 1) := by decide +kernel
theorem dX6_shareOut_79 : decode cX6_shareOut 79 = .ok (.invokestatic 31, 3) := by decide +kernel
theorem dX6_shareOut_82 : decode cX6_shareOut 82 = .ok (.istore 6, 2) := by decide +kernel
theorem dX6_shareOut_84 : decode cX6_shareOut 84 = .ok (.aload 5, 2) := by decide +kernel
theorem dX6_shareOut_86 : decode cX6_shareOut 86 = .ok (.dup, 1) := by decide +kernel
theorem dX6_shareOut_87 : decode cX6_shareOut 87 = .ok (.getfield 35, 3) := by decide +kernel
theorem dX6_shareOut_90 : decode cX6_shareOut 90 = .ok (.iload 6, 2) := by decide +kernel
theorem dX6_shareOut_92 : decode cX6_shareOut 92 = .ok (.iadd, 1) := by decide +kernel
theorem dX6_shareOut_93 : decode cX6_shareOut 93 = .ok (.putfield 35, 3) := by decide +kernel
theorem dX6_shareOut_96 : decode cX6_shareOut 96 = .ok (.iload_n 3, 1) := by decide +kernel
theorem dX6_shareOut_97 : decode cX6_shareOut 97 = .ok (.iload 6, 2) := by decide +kernel
theorem dX6_shareOut_99 : decode cX6_shareOut 99 = .ok (.isub, 1) := by decide +kernel
theorem dX6_shareOut_100 : decode cX6_shareOut 100 = .ok (.istore_n 3, 1) := by decide +kernel
theorem dX6_shareOut_101 : decode cX6_shareOut 101 = .ok (.iinc 4 1, 3) := by decide +kernel
theorem dX6_shareOut_104 : decode cX6_shareOut 104 = .ok (.goto (-61), 3) := by decide +kernel
theorem dX6_shareOut_107 : decode cX6_shareOut 107 = .ok (.iload_n 3, 1) := by decide +kernel
theorem dX6_shareOut_108 : decode cX6_shareOut 108 = .ok (.ireturn, 1) := by decide +kernel
theorem dX6_cutShare_0 : decode cX6_cutShare 0 = .ok (.iload_n 2, 1) := by decide +kernel
theorem dX6_cutShare_1 : decode cX6_cutShare 1 = .ok (.ifCond .ne 7, 3) := by decide +kernel
theorem dX6_cutShare_4 : decode cX6_cutShare 4 = .ok (.iconst 0, 1) := by decide +kernel
theorem dX6_cutShare_5 : decode cX6_cutShare 5 = .ok (.goto 8, 3) := by decide +kernel
theorem dX6_cutShare_8 : decode cX6_cutShare 8 = .ok (.lload_n 0, 1) := by decide +kernel
theorem dX6_cutShare_9 : decode cX6_cutShare 9 = .ok (.iload_n 2, 1) := by decide +kernel
theorem dX6_cutShare_10 : decode cX6_cutShare 10 = .ok (.i2l, 1) := by decide +kernel
theorem dX6_cutShare_11 : decode cX6_cutShare 11 = .ok (.ldiv, 1) := by decide +kernel
theorem dX6_cutShare_12 : decode cX6_cutShare 12 = .ok (.l2i, 1) := by decide +kernel
theorem dX6_cutShare_13 : decode cX6_cutShare 13 = .ok (.ireturn, 1) := by decide +kernel
theorem dX6_cheapestPlan_0 : decode cX6_cheapestPlan 0 = .ok (.iconst 0, 1) := by decide +kernel
theorem dX6_cheapestPlan_1 : decode cX6_cheapestPlan 1 = .ok (.istore_n 2, 1) := by decide +kernel
theorem dX6_cheapestPlan_2 : decode cX6_cheapestPlan 2 = .ok (.iconst 1, 1) := by decide +kernel
theorem dX6_cheapestPlan_3 : decode cX6_cheapestPlan 3 = .ok (.aload_n 0, 1) := by decide +kernel
theorem dX6_cheapestPlan_4 : decode cX6_cheapestPlan 4 = .ok (.getfield 12, 3) := by decide +kernel
theorem dX6_cheapestPlan_7 : decode cX6_cheapestPlan 7 = .ok (.invokevirtual 18, 3) := by decide +kernel
theorem dX6_cheapestPlan_10 : decode cX6_cheapestPlan 10 = .ok (.ishl, 1) := by decide +kernel
theorem dX6_cheapestPlan_11 : decode cX6_cheapestPlan 11 = .ok (.istore_n 3, 1) := by decide +kernel
theorem dX6_cheapestPlan_12 : decode cX6_cheapestPlan 12 = .ok (.iconst 1, 1) := by decide +kernel
theorem dX6_cheapestPlan_13 : decode cX6_cheapestPlan 13 = .ok (.istore 4, 2) := by decide +kernel
theorem dX6_cheapestPlan_15 : decode cX6_cheapestPlan 15 = .ok (.iload 4, 2) := by decide +kernel
theorem dX6_cheapestPlan_17 : decode cX6_cheapestPlan 17 = .ok (.iload_n 3, 1) := by decide +kernel
theorem dX6_cheapestPlan_18 : decode cX6_cheapestPlan 18 = .ok (.if_icmp .ge 36, 3) := by decide +kernel
theorem dX6_cheapestPlan_21 : decode cX6_cheapestPlan 21 = .ok (.aload_n 0, 1) := by decide +kernel
theorem dX6_cheapestPlan_22 : decode cX6_cheapestPlan 22 = .ok (.iload 4, 2) := by decide +kernel
theorem dX6_cheapestPlan_24 : decode cX6_cheapestPlan 24 = .ok (.invokevirtual 39, 3) := by decide +kernel
theorem dX6_cheapestPlan_27 : decode cX6_cheapestPlan 27 = .ok (.iload_n 1, 1) := by decide +kernel
theorem dX6_cheapestPlan_28 : decode cX6_cheapestPlan 28 = .ok (.if_icmp .lt 20, 3) := by decide +kernel
theorem dX6_cheapestPlan_31 : decode cX6_cheapestPlan 31 = .ok (.iload_n 2, 1) := by decide +kernel
theorem dX6_cheapestPlan_32 : decode cX6_cheapestPlan 32 = .ok (.ifCond .eq 13, 3) := by decide +kernel
theorem dX6_cheapestPlan_35 : decode cX6_cheapestPlan 35 = .ok (.aload_n 0, 1) := by decide +kernel
theorem dX6_cheapestPlan_36 : decode cX6_cheapestPlan 36 = .ok (.iload 4, 2) := by decide +kernel
theorem dX6_cheapestPlan_38 : decode cX6_cheapestPlan 38 = .ok (.iload_n 2, 1) := by decide +kernel
theorem dX6_cheapestPlan_39 : decode cX6_cheapestPlan 39 = .ok (.invokevirtual 43, 3) := by decide +kernel
theorem dX6_cheapestPlan_42 : decode cX6_cheapestPlan 42 = .ok (.ifCond .eq 6, 3) := by decide +kernel
theorem dX6_cheapestPlan_45 : decode cX6_cheapestPlan 45 = .ok (.iload 4, 2) := by decide +kernel
theorem dX6_cheapestPlan_47 : decode cX6_cheapestPlan 47 = .ok (.istore_n 2, 1) := by decide +kernel
theorem dX6_cheapestPlan_48 : decode cX6_cheapestPlan 48 = .ok (.iinc 4 1, 3) := by decide +kernel
theorem dX6_cheapestPlan_51 : decode cX6_cheapestPlan 51 = .ok (.goto (-36), 3) := by decide +kernel
theorem dX6_cheapestPlan_54 : decode cX6_cheapestPlan 54 = .ok (.iload_n 2, 1) := by decide +kernel
theorem dX6_cheapestPlan_55 : decode cX6_cheapestPlan 55 = .ok (.ireturn, 1) := by decide +kernel
theorem dX6_priceOf_0 : decode cX6_priceOf 0 = .ok (.iconst 0, 1) := by decide +kernel
theorem dX6_priceOf_1 : decode cX6_priceOf 1 = .ok (.istore_n 2, 1) := by decide +kernel
theorem dX6_priceOf_2 : decode cX6_priceOf 2 = .ok (.iconst 0, 1) := by decide +kernel
theorem dX6_priceOf_3 : decode cX6_priceOf 3 = .ok (.istore_n 3, 1) := by decide +kernel
theorem dX6_priceOf_4 : decode cX6_priceOf 4 = .ok (.iload_n 3, 1) := by decide +kernel
theorem dX6_priceOf_5 : decode cX6_priceOf 5 = .ok (.aload_n 0, 1) := by decide +kernel
theorem dX6_priceOf_6 : decode cX6_priceOf 6 = .ok (.getfield 12, 3) := by decide +kernel
theorem dX6_priceOf_9 : decode cX6_priceOf 9 = .ok (.invokevirtual 18, 3) := by decide +kernel
theorem dX6_priceOf_12 : decode cX6_priceOf 12 = .ok (.if_icmp .ge 34, 3) := by decide +kernel
theorem dX6_priceOf_15 : decode cX6_priceOf 15 = .ok (.iload_n 1, 1) := by decide +kernel
theorem dX6_priceOf_16 : decode cX6_priceOf 16 = .ok (.iload_n 3, 1) := by decide +kernel
theorem dX6_priceOf_17 : decode cX6_priceOf 17 = .ok (.invokestatic 47, 3) := by decide +kernel
theorem dX6_priceOf_20 : decode cX6_priceOf 20 = .ok (.ifCond .eq 20, 3) := by decide +kernel
theorem dX6_priceOf_23 : decode cX6_priceOf 23 = .ok (.iload_n 2, 1) := by decide +kernel
theorem dX6_priceOf_24 : decode cX6_priceOf 24 = .ok (.aload_n 0, 1) := by decide +kernel
theorem dX6_priceOf_25 : decode cX6_priceOf 25 = .ok (.getfield 12, 3) := by decide +kernel
theorem dX6_priceOf_28 : decode cX6_priceOf 28 = .ok (.iload_n 3, 1) := by decide +kernel
theorem dX6_priceOf_29 : decode cX6_priceOf 29 = .ok (.invokevirtual 22, 3) := by decide +kernel
theorem dX6_priceOf_32 : decode cX6_priceOf 32 = .ok (.checkcast 26, 3) := by decide +kernel
theorem dX6_priceOf_35 : decode cX6_priceOf 35 = .ok (.getfield 50, 3) := by decide +kernel
theorem dX6_priceOf_38 : decode cX6_priceOf 38 = .ok (.iadd, 1) := by decide +kernel
theorem dX6_priceOf_39 : decode cX6_priceOf 39 = .ok (.istore_n 2, 1) := by decide +kernel
theorem dX6_priceOf_40 : decode cX6_priceOf 40 = .ok (.iinc 3 1, 3) := by decide +kernel
theorem dX6_priceOf_43 : decode cX6_priceOf 43 = .ok (.goto (-39), 3) := by decide +kernel
theorem dX6_priceOf_46 : decode cX6_priceOf 46 = .ok (.iload_n 2, 1) := by decide +kernel
theorem dX6_priceOf_47 : decode cX6_priceOf 47 = .ok (.ireturn, 1) := by decide +kernel
theorem dX6_strengthOf_0 : decode cX6_strengthOf 0 = .ok (.iconst 0, 1) := by decide +kernel
theorem dX6_strengthOf_1 : decode cX6_strengthOf 1 = .ok (.istore_n 2, 1) := by decide +kernel
theorem dX6_strengthOf_2 : decode cX6_strengthOf 2 = .ok (.iconst 0, 1) := by decide +kernel
theorem dX6_strengthOf_3 : decode cX6_strengthOf 3 = .ok (.istore_n 3, 1) := by decide +kernel
theorem dX6_strengthOf_4 : decode cX6_strengthOf 4 = .ok (.iload_n 3, 1) := by decide +kernel
theorem dX6_strengthOf_5 : decode cX6_strengthOf 5 = .ok (.aload_n 0, 1) := by decide +kernel
theorem dX6_strengthOf_6 : decode cX6_strengthOf 6 = .ok (.getfield 12, 3) := by decide +kernel
theorem dX6_strengthOf_9 : decode cX6_strengthOf 9 = .ok (.invokevirtual 18, 3) := by decide +kernel
theorem dX6_strengthOf_12 : decode cX6_strengthOf 12 = .ok (.if_icmp .ge 34, 3) := by decide +kernel
theorem dX6_strengthOf_15 : decode cX6_strengthOf 15 = .ok (.iload_n 1, 1) := by decide +kernel
theorem dX6_strengthOf_16 : decode cX6_strengthOf 16 = .ok (.iload_n 3, 1) := by decide +kernel
theorem dX6_strengthOf_17 : decode cX6_strengthOf 17 = .ok (.invokestatic 47, 3) := by decide +kernel
theorem dX6_strengthOf_20 : decode cX6_strengthOf 20 = .ok (.ifCond .eq 20, 3) := by decide +kernel
theorem dX6_strengthOf_23 : decode cX6_strengthOf 23 = .ok (.iload_n 2, 1) := by decide +kernel
theorem dX6_strengthOf_24 : decode cX6_strengthOf 24 = .ok (.aload_n 0, 1) := by decide +kernel
theorem dX6_strengthOf_25 : decode cX6_strengthOf 25 = .ok (.getfield 12, 3) := by decide +kernel
theorem dX6_strengthOf_28 : decode cX6_strengthOf 28 = .ok (.iload_n 3, 1) := by decide +kernel
theorem dX6_strengthOf_29 : decode cX6_strengthOf 29 = .ok (.invokevirtual 22, 3) := by decide +kernel
theorem dX6_strengthOf_32 : decode cX6_strengthOf 32 = .ok (.checkcast 26, 3) := by decide +kernel
theorem dX6_strengthOf_35 : decode cX6_strengthOf 35 = .ok (.getfield 53, 3) := by decide +kernel
theorem dX6_strengthOf_38 : decode cX6_strengthOf 38 = .ok (.iadd, 1) := by decide +kernel
theorem dX6_strengthOf_39 : decode cX6_strengthOf 39 = .ok (.istore_n 2, 1) := by decide +kernel
theorem dX6_strengthOf_40 : decode cX6_strengthOf 40 = .ok (.iinc 3 1, 3) := by decide +kernel
theorem dX6_strengthOf_43 : decode cX6_strengthOf 43 = .ok (.goto (-39), 3) := by decide +kernel
theorem dX6_strengthOf_46 : decode cX6_strengthOf 46 = .ok (.iload_n 2, 1) := by decide +kernel
theorem dX6_strengthOf_47 : decode cX6_strengthOf 47 = .ok (.ireturn, 1) := by decide +kernel
theorem dX6_isBetter_0 : decode cX6_isBetter 0 = .ok (.aload_n 0, 1) := by decide +kernel
theorem dX6_isBetter_1 : decode cX6_isBetter 1 = .ok (.iload_n 1, 1) := by decide +kernel
theorem dX6_isBetter_2 : decode cX6_isBetter 2 = .ok (.invokevirtual 56, 3) := by decide +kernel
theorem dX6_isBetter_5 : decode cX6_isBetter 5 = .ok (.istore_n 3, 1) := by decide +kernel
theorem dX6_isBetter_6 : decode cX6_isBetter 6 = .ok (.aload_n 0, 1) := by decide +kernel
theorem dX6_isBetter_7 : decode cX6_isBetter 7 = .ok (.iload_n 2, 1) := by decide +kernel
theorem dX6_isBetter_8 : decode cX6_isBetter 8 = .ok (.invokevirtual 56, 3) := by decide +kernel
theorem dX6_isBetter_11 : decode cX6_isBetter 11 = .ok (.istore 4, 2) := by decide +kernel
theorem dX6_isBetter_13 : decode cX6_isBetter 13 = .ok (.iload_n 3, 1) := by decide +kernel
theorem dX6_isBetter_14 : decode cX6_isBetter 14 = .ok (.iload 4, 2) := by decide +kernel
theorem dX6_isBetter_16 : decode cX6_isBetter 16 = .ok (.if_icmp .eq 15, 3) := by decide +kernel
theorem dX6_isBetter_19 : decode cX6_isBetter 19 = .ok (.iload_n 3, 1) := by decide +kernel
theorem dX6_isBetter_20 : decode cX6_isBetter 20 = .ok (.iload 4, 2) := by decide +kernel
theorem dX6_isBetter_22 : decode cX6_isBetter 22 = .ok (.if_icmp .ge 7, 3) := by decide +kernel
theorem dX6_isBetter_25 : decode cX6_isBetter 25 = .ok (.iconst 1, 1) := by decide +kernel
theorem dX6_isBetter_26 : decode cX6_isBetter 26 = .ok (.goto 4, 3) := by decide +kernel
theorem dX6_isBetter_29 : decode cX6_isBetter 29 = .ok (.iconst 0, 1) := by decide +kernel
theorem dX6_isBetter_30 : decode cX6_isBetter 30 = .ok (.ireturn, 1) := by decide +kernel
theorem dX6_isBetter_31 : decode cX6_isBetter 31 = .ok (.iload_n 1, 1) := by decide +kernel
theorem dX6_isBetter_32 : decode cX6_isBetter 32 = .ok (.invokestatic 59, 3) := by decide +kernel
theorem dX6_isBetter_35 : decode cX6_isBetter 35 = .ok (.istore 5, 2) := by decide +kernel
theorem dX6_isBetter_37 : decode cX6_isBetter 37 = .ok (.iload_n 2, 1) := by decide +kernel
theorem dX6_isBetter_38 : decode cX6_isBetter 38 = .ok (.invokestatic 59, 3) := by decide +kernel
theorem dX6_isBetter_41 : decode cX6_isBetter 41 = .ok (.istore 6, 2) := by decide +kernel
theorem dX6_isBetter_43 : decode cX6_isBetter 43 = .ok (.iload 5, 2) := by decide +kernel
theorem dX6_isBetter_45 : decode cX6_isBetter 45 = .ok (.iload 6, 2) := by decide +kernel
theorem dX6_isBetter_47 : decode cX6_isBetter 47 = .ok (.if_icmp .eq 16, 3) := by decide +kernel
theorem dX6_isBetter_50 : decode cX6_isBetter 50 = .ok (.iload 5, 2) := by decide +kernel
theorem dX6_isBetter_52 : decode cX6_isBetter 52 = .ok (.iload 6, 2) := by decide +kernel
theorem dX6_isBetter_54 : decode cX6_isBetter 54 = .ok (.if_icmp .ge 7, 3) := by decide +kernel
theorem dX6_isBetter_57 : decode cX6_isBetter 57 = .ok (.iconst 1, 1) := by decide +kernel
theorem dX6_isBetter_58 : decode cX6_isBetter 58 = .ok (.goto 4, 3) := by decide +kernel
theorem dX6_isBetter_61 : decode cX6_isBetter 61 = .ok (.iconst 0, 1) := by decide +kernel
theorem dX6_isBetter_62 : decode cX6_isBetter 62 = .ok (.ireturn, 1) := by decide +kernel
theorem dX6_isBetter_63 : decode cX6_isBetter 63 = .ok (.iload_n 1, 1) := by decide +kernel
theorem dX6_isBetter_64 : decode cX6_isBetter 64 = .ok (.iload_n 2, 1) := by decide +kernel
theorem dX6_isBetter_65 : decode cX6_isBetter 65 = .ok (.ixor, 1) := by decide +kernel
theorem dX6_isBetter_66 : decode cX6_isBetter 66 = .ok (.istore 7, 2) := by decide +kernel
theorem dX6_isBetter_68 : decode cX6_isBetter 68 = .ok (.iload_n 1, 1) := by decide +kernel
theorem dX6_isBetter_69 : decode cX6_isBetter 69 = .ok (.iload 7, 2) := by decide +kernel
theorem dX6_isBetter_71 : decode cX6_isBetter 71 = .ok (.iand, 1) := by decide +kernel
theorem dX6_isBetter_72 : decode cX6_isBetter 72 = .ok (.iload 7, 2) := by decide +kernel
theorem dX6_isBetter_74 : decode cX6_isBetter 74 = .ok (.ineg, 1) := by decide +kernel
theorem dX6_isBetter_75 : decode cX6_isBetter 75 = .ok (.iand, 1) := by decide +kernel
theorem dX6_isBetter_76 : decode cX6_isBetter 76 = .ok (.ifCond .eq 7, 3) := by decide +kernel
theorem dX6_isBetter_79 : decode cX6_isBetter 79 = .ok (.iconst 1, 1) := by decide +kernel
theorem dX6_isBetter_80 : decode cX6_isBetter 80 = .ok (.goto 4, 3) := by decide +kernel
theorem dX6_isBetter_83 : decode cX6_isBetter 83 = .ok (.iconst 0, 1) := by decide +kernel
theorem dX6_isBetter_84 : decode cX6_isBetter 84 = .ok (.ireturn, 1) := by decide +kernel
theorem dX6_isInOrder_0 : decode cX6_isInOrder 0 = .ok (.iconst 0, 1) := by decide +kernel
theorem dX6_isInOrder_1 : decode cX6_isInOrder 1 = .ok (.istore_n 1, 1) := by decide +kernel
theorem dX6_isInOrder_2 : decode cX6_isInOrder 2 = .ok (.iload_n 1, 1) := by decide +kernel
theorem dX6_isInOrder_3 : decode cX6_isInOrder 3 = .ok (.aload_n 0, 1) := by decide +kernel
theorem dX6_isInOrder_4 : decode cX6_isInOrder 4 = .ok (.getfield 12, 3) := by decide +kernel
theorem dX6_isInOrder_7 : decode cX6_isInOrder 7 = .ok (.invokevirtual 18, 3) := by decide +kernel
theorem dX6_isInOrder_10 : decode cX6_isInOrder 10 = .ok (.if_icmp .ge 41, 3) := by decide +kernel
theorem dX6_isInOrder_13 : decode cX6_isInOrder 13 = .ok (.aload_n 0, 1) := by decide +kernel
theorem dX6_isInOrder_14 : decode cX6_isInOrder 14 = .ok (.getfield 12, 3) := by decide +kernel
theorem dX6_isInOrder_17 : decode cX6_isInOrder 17 = .ok (.iload_n 1, 1) := by decide +kernel
theorem dX6_isInOrder_18 : decode cX6_isInOrder 18 = .ok (.invokevirtual 22, 3) := by decide +kernel
theorem dX6_isInOrder_21 : decode cX6_isInOrder 21 = .ok (.checkcast 26, 3) := by decide +kernel
theorem dX6_isInOrder_24 : decode cX6_isInOrder 24 = .ok (.astore_n 2, 1) := by decide +kernel
theorem dX6_isInOrder_25 : decode cX6_isInOrder 25 = .ok (.aload_n 2, 1) := by decide +kernel
theorem dX6_isInOrder_26 : decode cX6_isInOrder 26 = .ok (.getfield 64, 3) := by decide +kernel
theorem dX6_isInOrder_29 : decode cX6_isInOrder 29 = .ok (.ifnull 16, 3) := by decide +kernel
theorem dX6_isInOrder_32 : decode cX6_isInOrder 32 = .ok (.aload_n 2, 1) := by decide +kernel
theorem dX6_isInOrder_33 : decode cX6_isInOrder 33 = .ok (.getfield 64, 3) := by decide +kernel
theorem dX6_isInOrder_36 : decode cX6_isInOrder 36 = .ok (.getfield 68, 3) := by decide +kernel
theorem dX6_isInOrder_39 : decode cX6_isInOrder 39 = .ok (.aload_n 2, 1) := by decide +kernel
theorem dX6_isInOrder_40 : decode cX6_isInOrder 40 = .ok (.if_acmp .eq 5, 3) := by decide +kernel
theorem dX6_isInOrder_43 : decode cX6_isInOrder 43 = .ok (.iconst 0, 1) := by decide +kernel
theorem dX6_isInOrder_44 : decode cX6_isInOrder 44 = .ok (.ireturn, 1) := by decide +kernel
theorem dX6_isInOrder_45 : decode cX6_isInOrder 45 = .ok (.iinc 1 1, 3) := by decide +kernel
theorem dX6_isInOrder_48 : decode cX6_isInOrder 48 = .ok (.goto (-46), 3) := by decide +kernel
theorem dX6_isInOrder_51 : decode cX6_isInOrder 51 = .ok (.iconst 1, 1) := by decide +kernel
theorem dX6_isInOrder_52 : decode cX6_isInOrder 52 = .ok (.ireturn, 1) := by decide +kernel
end
section
/-- what a seat forgets as an evening begins -/
def fRest (Z : zM) (k : Nat) : zM := zu (zu (zu (zu Z 3 k 0) 6 k 0) 4 k 0) 7 k 0
/-- a newcomer c in seat k, whose hand, if any, has no seat then -/
def fTake (Z : zM) (k : Nat) (c : Int32) : zM := fRest (zu (zu (zu Z 2 k (-1)) 0 k c) 1 k 0) k
def fUn (Z : zM) (sb : Nat → Option Nat) (k : Nat) : Nat → Option Nat := match zh (Z 2 k) with | none => sb | some j => va_up sb j none
def zChr (x : Int32) : Prop := narrow .char (.int x) = .int x ∧ fits .char (.int x) = true
def zBol (x : Int32) : Prop := narrow .boolean (.int x) = .int x ∧ fits .boolean (.int x) = true
def fKeep (Z : zM) (k : Nat) : zM := zu (zu Z 5 k (Z 3 k)) 8 k (Z 7 k)
def fHeard (Z : zM) (k : Nat) : Int32 := if Z 8 k = 0 then Z 5 k else Z 5 k - 4
def fMax (x y : Int32) : Int32 := if x < y then y else x
def fMin (x y : Int32) : Int32 := if y < x then y else x
/-- a payer of seat k, with a around it -/
def fPay (Z : zM) (k : Nat) (a : Int32) : zM := if a < 3 * (Z 1 k + Z 4 k / 10) then zu (zu Z 6 k 0) 3 k (fMax 0 (Z 5 k - 1)) else zu (zu (zu Z 6 k 1) 4 k (Z 4 k + 1)) 3 k (fMax 1 (fMin 9 (a / 4)))
theorem zu_id {Z : zM} {F k : Nat} {v : Int32} (h : Z F k = v) : zu Z F k v = Z := by
  funext f j
  unfold zu
  by_cases q : f = F ∧ j = k
  · rw [if_pos q, q.1, q.2, h]
  · rw [if_neg q]
set_option maxRecDepth 100000 in
set_option maxHeartbeats 4000000 in
theorem c_X4_forgetEvening {G : zG} {l : Launch} (hl : l.stackTraces = false) {Z : zM} {sb : Nat → Option Nat} {mcn : Nat → Int32} {cp : Nat → Nat} {Y : zM} {th : Int32} {o : Nat → Int64} {od : Nat → UInt64} {ad : Nat → Nat} {k : Nat} (hk : k < 80) : zCt G l yX4_forgetEvening (zws yX4_forgetEvening cX4_forgetEvening 1 none) ({ frames := 0, cells := 0, slots := 0, locals := 0 }) [.ref (ad (100 + k))] (zent Z sb mcn cp G.2.2.2.1 Y th o od ad) ad (fun r w1 ad1 => none = r ∧ zent (fRest Z k) sb mcn cp G.2.2.2.1 Y th o od ad = w1 ∧ ad = ad1) (zNoX) := by
  refine z_body hl (by decide +kernel) (Nat.le_of_ble_eq_true rfl) (fun X O => ?_)
  refine z_aload_n O dX4_forgetEvening_0 rfl ?_
  refine z_iconst O dX4_forgetEvening_1 (v := 0) (by decide) ?_
  refine z_put O (fk := 3) (fun x h => zI x (zu_RX4 x h)) tyX4 tyX4_ok nmX4 rfl (by decide) (zI _ zm0_52) rfl dX4_forgetEvening_2 rfl rfl (zg_seat hk) (Nat.le_of_ble_eq_true rfl) (zp_seat_noise hk) ?_
  refine z_aload_n O dX4_forgetEvening_5 rfl ?_
  refine z_iconst O dX4_forgetEvening_6 (v := 0) (by decide) ?_
  refine z_put O (fk := 5) (fun x h => zI x (zu_RX4 x h)) tyX4 tyX4_ok nmX4 rfl (by decide) (zI _ zm1_8) rfl dX4_forgetEvening_7 rfl rfl (zg_seat hk) (Nat.le_of_ble_eq_true rfl) (zp_seat_joined hk) ?_
  refine z_aload_n O dX4_forgetEvening_10 rfl ?_
  refine z_iconst O dX4_forgetEvening_11 (v := 0) (by decide) ?_
  refine z_put O (fk := 6) (fun x h => zI x (zu_RX4 x h)) tyX4 tyX4_ok nmX4 rfl (by decide) (zI _ zm1_5) rfl dX4_forgetEvening_12 rfl rfl (zg_seat hk) (Nat.le_of_ble_eq_true rfl) (zp_seat_joins hk) ?_
  refine z_aload_n O dX4_forgetEvening_15 rfl ?_
  refine z_iconst O dX4_forgetEvening_16 (v := 0) (by decide) ?_
  refine z_put O (fk := 7) (fun x h => zI x (zu_RX4 x h)) tyX4 tyX4_ok nmX4 rfl (by decide) (zI _ zm0_54) rfl dX4_forgetEvening_17 rfl rfl (zg_seat hk) (Nat.le_of_ble_eq_true rfl) (zp_seat_hissed hk) ?_
  exact z_vret O dX4_forgetEvening_20 (Nat.le_of_ble_eq_true rfl) (Nat.le_of_ble_eq_true rfl) ⟨rfl, rfl, rfl⟩

set_option maxRecDepth 100000 in
set_option maxHeartbeats 4000000 in
theorem c_X4_take {G : zG} {l : Launch} (hl : l.stackTraces = false) {Z : zM} {sb : Nat → Option Nat} {mcn : Nat → Int32} {cp : Nat → Nat} {Y : zM} {th : Int32} {o : Nat → Int64} {od : Nat → UInt64} {ad : Nat → Nat} {k : Nat} (hk : k < 80) {ch : Int32} (hch : zChr ch) (hwz : zChr (Z 0 k)) (hm : zh (Z 2 k) = none → Z 2 k = -1) (hjj : ∀ j, zh (Z 2 k) = some j → j < zN Z 0 ∧ j < 20) : zCt G l yX4_take (zws yX4_take cX4_take 3 (some .char)) ({ frames := 1, cells := 0, slots := 0, locals := 20 }) [.ref (ad (100 + k)), .int ch] (zent Z sb mcn cp G.2.2.2.1 Y th o od ad) ad (fun r w1 ad1 => some (.int (Z 0 k)) = r ∧ zent (fTake Z k ch) (fUn Z sb k) mcn cp G.2.2.2.1 Y th o od ad = w1 ∧ ad = ad1) (zNoX) := by
  refine z_body hl (by decide +kernel) (Nat.le_of_ble_eq_true rfl) (fun X O => ?_)
  cases hz : zh (Z 2 k) with
  | none =>
    refine z_aload_n O dX4_take_0 rfl ?_
    refine z_get O (fk := 0) (fun x h => zI x (zu_RX4 x h)) rfl (by decide) (zI _ zm2_50) dX4_take_1 (zg_seat hk) rfl ?_
    refine z_istore_n O dX4_take_4 (by decide) ?_
    refine z_aload_n O dX4_take_5 rfl ?_
    refine z_get O (fk := 2) (v := .null) (fun x h => zI x (zu_RX4 x h)) rfl (by decide) (zI _ zm2_51) dX4_take_6 (zg_seat hk) (by simp only [sSeat, hz]; rfl) ?_
    refine z_ifnullN O dX4_take_9 (tgt := 25) (by decide) ?_
    refine z_aload_n O dX4_take_25 rfl ?_
    refine z_iload_n O dX4_take_26 rfl ?_
    refine z_put O (fk := 0) (fun x h => zI x (zu_RX4 x h)) tyX4 tyX4_ok nmX4 rfl (by decide) (zI _ zm2_50) rfl dX4_take_27 hch.1 hch.2 (zg_seat hk) (Nat.le_of_ble_eq_true rfl) (zp_seat_who hk) ?_
    refine z_aload_n O dX4_take_30 rfl ?_
    refine z_iconst O dX4_take_31 (v := 0) (by decide) ?_
    refine z_put O (fk := 1) (fun x h => zI x (zu_RX4 x h)) tyX4 tyX4_ok nmX4 rfl (by decide) (zI _ zm1_7) rfl dX4_take_32 rfl rfl (zg_seat hk) (Nat.le_of_ble_eq_true rfl) (zp_seat_threshold hk) ?_
    refine z_aload_n O dX4_take_35 rfl ?_
    refine z_callV O (c_X4_forgetEvening hl hk) zI zm2_60 zm2_61 zm2_62 zm0_61 zm2_57 ⟨rfl, by decide +kernel, by decide +kernel, (show _ = some 0 by decide +kernel)⟩ rfl (zg_seat hk) ⟨Nat.le_of_ble_eq_true rfl, Nat.le_of_ble_eq_true rfl⟩ ⟨Nat.le_of_ble_eq_true rfl, Nat.le_of_ble_eq_true rfl⟩ dX4_take_36 rfl (Nat.le_of_ble_eq_true rfl) (fun _ _ _ h => h.elim) (fun r w1 ad1 hp => ?_)
    obtain ⟨rfl, rfl, rfl⟩ := hp
    refine z_iload_n O dX4_take_39 rfl ?_
    exact z_zret O rfl hwz.1 dX4_take_40 (Nat.le_of_ble_eq_true rfl) (Nat.le_of_ble_eq_true rfl) ⟨rfl, by unfold fTake fUn; rw [hz, zu_id (hm hz)], rfl⟩
  | some j =>
    obtain ⟨hj, hj2⟩ := hjj j hz
    refine z_aload_n O dX4_take_0 rfl ?_
    refine z_get O (fk := 0) (fun x h => zI x (zu_RX4 x h)) rfl (by decide) (zI _ zm2_50) dX4_take_1 (zg_seat hk) rfl ?_
    refine z_istore_n O dX4_take_4 (by decide) ?_
    refine z_aload_n O dX4_take_5 rfl ?_
    refine z_get O (fk := 2) (v := .ref (ad (200 + j))) (fun x h => zI x (zu_RX4 x h)) rfl (by decide) (zI _ zm2_51) dX4_take_6 (zg_seat hk) (by simp only [sSeat, hz]; rfl) ?_
    refine z_ifnull O dX4_take_9 ?_
    refine z_aload_n O dX4_take_12 rfl ?_
    refine z_get O (fk := 2) (v := .ref (ad (200 + j))) (fun x h => zI x (zu_RX4 x h)) rfl (by decide) (zI _ zm2_51) dX4_take_13 (zg_seat hk) (by simp only [sSeat, hz]; rfl) ?_
    refine z_null O dX4_take_16 ?_
    refine z_put O (fk := 5) (fun x h => zI x (zu_RX2 x h)) tyX2 tyX2_ok nmX2 rfl (by decide) (zI _ zm2_59) rfl dX4_take_17 rfl rfl (zg_hand hj hj2) (Nat.le_of_ble_eq_true rfl) (zp_hand_seat (r := none) hj hj2) ?_
    refine z_aload_n O dX4_take_20 rfl ?_
    refine z_null O dX4_take_21 ?_
    refine z_put O (fk := 2) (fun x h => zI x (zu_RX4 x h)) tyX4 tyX4_ok nmX4 rfl (by decide) (zI _ zm2_51) rfl dX4_take_22 rfl rfl (zg_seat hk) (Nat.le_of_ble_eq_true rfl) (zp_seat_hand (v := -1) (r := none) hk (by decide)) ?_
    refine z_aload_n O dX4_take_25 rfl ?_
    refine z_iload_n O dX4_take_26 rfl ?_
    refine z_put O (fk := 0) (fun x h => zI x (zu_RX4 x h)) tyX4 tyX4_ok nmX4 rfl (by decide) (zI _ zm2_50) rfl dX4_take_27 hch.1 hch.2 (zg_seat hk) (Nat.le_of_ble_eq_true rfl) (zp_seat_who hk) ?_
    refine z_aload_n O dX4_take_30 rfl ?_
    refine z_iconst O dX4_take_31 (v := 0) (by decide) ?_
    refine z_put O (fk := 1) (fun x h => zI x (zu_RX4 x h)) tyX4 tyX4_ok nmX4 rfl (by decide) (zI _ zm1_7) rfl dX4_take_32 rfl rfl (zg_seat hk) (Nat.le_of_ble_eq_true rfl) (zp_seat_threshold hk) ?_
    refine z_aload_n O dX4_take_35 rfl ?_
    refine z_callV O (c_X4_forgetEvening hl hk) zI zm2_60 zm2_61 zm2_62 zm0_61 zm2_57 ⟨rfl, by decide +kernel, by decide +kernel, (show _ = some 0 by decide +kernel)⟩ rfl (zg_seat hk) ⟨Nat.le_of_ble_eq_true rfl, Nat.le_of_ble_eq_true rfl⟩ ⟨Nat.le_of_ble_eq_true rfl, Nat.le_of_ble_eq_true rfl⟩ dX4_take_36 rfl (Nat.le_of_ble_eq_true rfl) (fun _ _ _ h => h.elim) (fun r w1 ad1 hp => ?_)
    obtain ⟨rfl, rfl, rfl⟩ := hp
    refine z_iload_n O dX4_take_39 rfl ?_
    exact z_zret O rfl hwz.1 dX4_take_40 (Nat.le_of_ble_eq_true rfl) (Nat.le_of_ble_eq_true rfl) ⟨rfl, by unfold fTake fUn; rw [hz], rfl⟩

set_option maxRecDepth 100000 in
set_option maxHeartbeats 4000000 in
theorem c_X4_keepTickAhead {G : zG} {l : Launch} (hl : l.stackTraces = false) {Z : zM} {sb : Nat → Option Nat} {mcn : Nat → Int32} {cp : Nat → Nat} {Y : zM} {th : Int32} {o : Nat → Int64} {od : Nat → UInt64} {ad : Nat → Nat} {k : Nat} (hk : k < 80) (hbz : zBol (Z 7 k)) : zCt G l yX4_keepTickAhead (zws yX4_keepTickAhead cX4_keepTickAhead 1 none) ({ frames := 0, cells := 0, slots := 0, locals := 0 }) [.ref (ad (100 + k))] (zent Z sb mcn cp G.2.2.2.1 Y th o od ad) ad (fun r w1 ad1 => none = r ∧ zent (fKeep Z k) sb mcn cp G.2.2.2.1 Y th o od ad = w1 ∧ ad = ad1) (zNoX) := by
  refine z_body hl (by decide +kernel) (Nat.le_of_ble_eq_true rfl) (fun X O => ?_)
  refine z_aload_n O dX4_keepTickAhead_0 rfl ?_
  refine z_aload_n O dX4_keepTickAhead_1 rfl ?_
  refine z_get O (fk := 3) (fun x h => zI x (zu_RX4 x h)) rfl (by decide) (zI _ zm0_52) dX4_keepTickAhead_2 (zg_seat hk) rfl ?_
  refine z_put O (fk := 4) (fun x h => zI x (zu_RX4 x h)) tyX4 tyX4_ok nmX4 rfl (by decide) (zI _ zm0_53) rfl dX4_keepTickAhead_5 rfl rfl (zg_seat hk) (Nat.le_of_ble_eq_true rfl) (zp_seat_noiseAhead hk) ?_
  refine z_aload_n O dX4_keepTickAhead_8 rfl ?_
  refine z_aload_n O dX4_keepTickAhead_9 rfl ?_
  refine z_get O (fk := 7) (fun x h => zI x (zu_RX4 x h)) rfl (by decide) (zI _ zm0_54) dX4_keepTickAhead_10 (zg_seat hk) rfl ?_
  refine z_put O (fk := 8) (fun x h => zI x (zu_RX4 x h)) tyX4 tyX4_ok nmX4 rfl (by decide) (zI _ zm0_55) rfl dX4_keepTickAhead_13 hbz.1 hbz.2 (zg_seat hk) (Nat.le_of_ble_eq_true rfl) (zp_seat_hissedAhead hk) ?_
  exact z_vret O dX4_keepTickAhead_16 (Nat.le_of_ble_eq_true rfl) (Nat.le_of_ble_eq_true rfl) ⟨rfl, rfl, rfl⟩

set_option maxRecDepth 100000 in
set_option maxHeartbeats 4000000 in
theorem c_X4_heardByNeighbours {G : zG} {l : Launch} (hl : l.stackTraces = false) {Z : zM} {sb : Nat → Option Nat} {mcn : Nat → Int32} {cp : Nat → Nat} {Y : zM} {th : Int32} {o : Nat → Int64} {od : Nat → UInt64} {ad : Nat → Nat} {k : Nat} (hk : k < 80) : zCt G l yX4_heardByNeighbours (zws yX4_heardByNeighbours cX4_heardByNeighbours 1 (some .int)) ({ frames := 0, cells := 0, slots := 0, locals := 0 }) [.ref (ad (100 + k))] (zent Z sb mcn cp G.2.2.2.1 Y th o od ad) ad (fun r w1 ad1 => some (.int (fHeard Z k)) = r ∧ zent Z sb mcn cp G.2.2.2.1 Y th o od ad = w1 ∧ ad = ad1) (zNoX) := by
  refine z_body hl (by decide +kernel) (Nat.le_of_ble_eq_true rfl) (fun X O => ?_)
  refine z_aload_n O dX4_heardByNeighbours_0 rfl ?_
  refine z_get O (fk := 8) (fun x h => zI x (zu_RX4 x h)) rfl (by decide) (zI _ zm0_55) dX4_heardByNeighbours_1 (zg_seat hk) rfl ?_
  refine z_if_eq O dX4_heardByNeighbours_4 (tgt := 16) (by decide) (fun h => ?_) (fun h => ?_)
  · refine z_aload_n O dX4_heardByNeighbours_16 rfl ?_
    refine z_get O (fk := 4) (fun x h => zI x (zu_RX4 x h)) rfl (by decide) (zI _ zm0_53) dX4_heardByNeighbours_17 (zg_seat hk) rfl ?_
    exact z_iret O dX4_heardByNeighbours_20 (Nat.le_of_ble_eq_true rfl) (Nat.le_of_ble_eq_true rfl) ⟨by unfold fHeard; rw [if_pos h], rfl, rfl⟩
  · refine z_aload_n O dX4_heardByNeighbours_7 rfl ?_
    refine z_get O (fk := 4) (fun x h => zI x (zu_RX4 x h)) rfl (by decide) (zI _ zm0_53) dX4_heardByNeighbours_8 (zg_seat hk) rfl ?_
    refine z_iconst O dX4_heardByNeighbours_11 (v := 4) (by decide) ?_
    refine z_isub O dX4_heardByNeighbours_12 ?_
    refine z_goto O dX4_heardByNeighbours_13 (tgt := 20) (by decide) ?_
    exact z_iret O dX4_heardByNeighbours_20 (Nat.le_of_ble_eq_true rfl) (Nat.le_of_ble_eq_true rfl) ⟨by unfold fHeard; rw [if_neg h], rfl, rfl⟩

set_option maxRecDepth 100000 in
set_option maxHeartbeats 4000000 in
theorem c_X4_tirednessNow {G : zG} {l : Launch} (hl : l.stackTraces = false) {Z : zM} {sb : Nat → Option Nat} {mcn : Nat → Int32} {cp : Nat → Nat} {Y : zM} {th : Int32} {o : Nat → Int64} {od : Nat → UInt64} {ad : Nat → Nat} {k : Nat} (hk : k < 80) : zCt G l yX4_tirednessNow (zws yX4_tirednessNow cX4_tirednessNow 1 (some .int)) ({ frames := 0, cells := 0, slots := 0, locals := 0 }) [.ref (ad (100 + k))] (zent Z sb mcn cp G.2.2.2.1 Y th o od ad) ad (fun r w1 ad1 => some (.int (Z 4 k / 10)) = r ∧ zent Z sb mcn cp G.2.2.2.1 Y th o od ad = w1 ∧ ad = ad1) (zNoX) := by
  refine z_body hl (by decide +kernel) (Nat.le_of_ble_eq_true rfl) (fun X O => ?_)
  refine z_aload_n O dX4_tirednessNow_0 rfl ?_
  refine z_get O (fk := 6) (fun x h => zI x (zu_RX4 x h)) rfl (by decide) (zI _ zm1_5) dX4_tirednessNow_1 (zg_seat hk) rfl ?_
  refine z_bipush O dX4_tirednessNow_4 (v := 10) (by decide) ?_
  refine z_idiv O dX4_tirednessNow_6 (by decide) ?_
  exact z_iret O dX4_tirednessNow_7 (Nat.le_of_ble_eq_true rfl) (Nat.le_of_ble_eq_true rfl) ⟨rfl, rfl, rfl⟩

set_option maxRecDepth 100000 in
set_option maxHeartbeats 4000000 in
theorem c_X4_soundAsPayer {G : zG} {l : Launch} (hl : l.stackTraces = false) {Z : zM} {sb : Nat → Option Nat} {mcn : Nat → Int32} {cp : Nat → Nat} {Y : zM} {th : Int32} {o : Nat → Int64} {od : Nat → UInt64} {ad : Nat → Nat} {k : Nat} (hk : k < 80) {a : Int32} : zCt G l yX4_soundAsPayer (zws yX4_soundAsPayer cX4_soundAsPayer 2 none) ({ frames := 1, cells := 0, slots := 0, locals := 21 }) [.ref (ad (100 + k)), .int a] (zent Z sb mcn cp G.2.2.2.1 Y th o od ad) ad (fun r w1 ad1 => none = r ∧ zent (fPay Z k a) sb mcn cp G.2.2.2.1 Y th o od ad = w1 ∧ ad = ad1) (zNoX) := by
  refine z_body hl (by decide +kernel) (Nat.le_of_ble_eq_true rfl) (fun X O => ?_)
  refine z_aload_n O dX4_soundAsPayer_0 rfl ?_
  refine z_iload_n O dX4_soundAsPayer_1 rfl ?_
  refine z_iconst O dX4_soundAsPayer_2 (v := 3) (by decide) ?_
  refine z_aload_n O dX4_soundAsPayer_3 rfl ?_
  refine z_get O (fk := 1) (fun x h => zI x (zu_RX4 x h)) rfl (by decide) (zI _ zm1_7) dX4_soundAsPayer_4 (zg_seat hk) rfl ?_
  refine z_aload_n O dX4_soundAsPayer_7 rfl ?_
  refine z_callV O (c_X4_tirednessNow hl hk) zI zm1_16 zm1_17 zm1_18 zm0_61 zm1_4 ⟨rfl, by decide +kernel, by decide +kernel, (show _ = some 0 by decide +kernel)⟩ rfl (zg_seat hk) ⟨Nat.le_of_ble_eq_true rfl, Nat.le_of_ble_eq_true rfl⟩ ⟨Nat.le_of_ble_eq_true rfl, Nat.le_of_ble_eq_true rfl⟩ dX4_soundAsPayer_8 rfl (Nat.le_of_ble_eq_true rfl) (fun _ _ _ h => h.elim) (fun r w1 ad1 hp => ?_)
  obtain ⟨rfl, rfl, rfl⟩ := hp
  refine z_iadd O dX4_soundAsPayer_11 ?_
  refine z_imul O dX4_soundAsPayer_12 ?_
  refine z_icmp_lt O dX4_soundAsPayer_13 (tgt := 20) (by decide) (fun h => ?_) (fun h => ?_)
  · refine z_iconst O dX4_soundAsPayer_20 (v := 0) (by decide) ?_
    refine z_put O (fk := 5) (fun x h => zI x (zu_RX4 x h)) tyX4 tyX4_ok nmX4 rfl (by decide) (zI _ zm1_8) rfl dX4_soundAsPayer_21 (by decide) rfl (zg_seat hk) (Nat.le_of_ble_eq_true rfl) (zp_seat_joined hk) ?_
    refine z_aload_n O dX4_soundAsPayer_24 rfl ?_
    refine z_get O (fk := 5) (v := .int 0) (fun x h => zI x (zu_RX4 x h)) rfl (by decide) (zI _ zm1_8) dX4_soundAsPayer_25 (zg_seat hk) (by simp only [sSeat, zu_s]; rfl) ?_
    refine z_if_eq O dX4_soundAsPayer_28 (tgt := 60) (by decide) (fun _ => ?_) (fun g => absurd rfl g)
    refine z_aload_n O dX4_soundAsPayer_60 rfl ?_
    refine z_iconst O dX4_soundAsPayer_61 (v := 0) (by decide) ?_
    refine z_aload_n O dX4_soundAsPayer_62 rfl ?_
    refine z_get O (fk := 4) (fun x h => zI x (zu_RX4 x h)) rfl (by decide) (zI _ zm0_53) dX4_soundAsPayer_63 (zg_seat hk) rfl ?_
    refine z_iconst O dX4_soundAsPayer_66 (v := 1) (by decide) ?_
    refine z_isub O dX4_soundAsPayer_67 ?_
    refine z_mmax O zI zm1_13 zm1_14 zm1_11 zm1_15 dX4_soundAsPayer_68 (Nat.le_of_ble_eq_true rfl) (Nat.le_of_ble_eq_true rfl) (Nat.le_of_ble_eq_true rfl) (Nat.le_of_ble_eq_true rfl) ?_
    refine z_put O (fk := 3) (fun x h => zI x (zu_RX4 x h)) tyX4 tyX4_ok nmX4 rfl (by decide) (zI _ zm0_52) rfl dX4_soundAsPayer_71 rfl rfl (zg_seat hk) (Nat.le_of_ble_eq_true rfl) (zp_seat_noise hk) ?_
    exact z_vret O dX4_soundAsPayer_74 (Nat.le_of_ble_eq_true rfl) (Nat.le_of_ble_eq_true rfl) ⟨rfl, by unfold fPay; rw [if_pos h]; rfl, rfl⟩
  · refine z_iconst O dX4_soundAsPayer_16 (v := 1) (by decide) ?_
    refine z_goto O dX4_soundAsPayer_17 (tgt := 21) (by decide) ?_
    refine z_put O (fk := 5) (fun x h => zI x (zu_RX4 x h)) tyX4 tyX4_ok nmX4 rfl (by decide) (zI _ zm1_8) rfl dX4_soundAsPayer_21 (by decide) rfl (zg_seat hk) (Nat.le_of_ble_eq_true rfl) (zp_seat_joined hk) ?_
    refine z_aload_n O dX4_soundAsPayer_24 rfl ?_
    refine z_get O (fk := 5) (v := .int 1) (fun x h => zI x (zu_RX4 x h)) rfl (by decide) (zI _ zm1_8) dX4_soundAsPayer_25 (zg_seat hk) (by simp only [sSeat, zu_s]; rfl) ?_
    refine z_if_eq O dX4_soundAsPayer_28 (tgt := 60) (by decide) (fun g => absurd g (by decide)) (fun _ => ?_)
    refine z_aload_n O dX4_soundAsPayer_31 rfl ?_
    refine z_dup O dX4_soundAsPayer_32 rfl ?_
    refine z_get O (fk := 6) (fun x h => zI x (zu_RX4 x h)) rfl (by decide) (zI _ zm1_5) dX4_soundAsPayer_33 (zg_seat hk) rfl ?_
    refine z_iconst O dX4_soundAsPayer_36 (v := 1) (by decide) ?_
    refine z_iadd O dX4_soundAsPayer_37 ?_
    refine z_put O (fk := 6) (fun x h => zI x (zu_RX4 x h)) tyX4 tyX4_ok nmX4 rfl (by decide) (zI _ zm1_5) rfl dX4_soundAsPayer_38 rfl rfl (zg_seat hk) (Nat.le_of_ble_eq_true rfl) (zp_seat_joins hk) ?_
    refine z_aload_n O dX4_soundAsPayer_41 rfl ?_
    refine z_iconst O dX4_soundAsPayer_42 (v := 1) (by decide) ?_
    refine z_bipush O dX4_soundAsPayer_43 (v := 9) (by decide) ?_
    refine z_iload_n O dX4_soundAsPayer_45 rfl ?_
    refine z_iconst O dX4_soundAsPayer_46 (v := 4) (by decide) ?_
    refine z_idiv O dX4_soundAsPayer_47 (by decide) ?_
    refine z_mmin O zI zm1_9 zm1_10 zm1_11 zm1_12 dX4_soundAsPayer_48 (Nat.le_of_ble_eq_true rfl) (Nat.le_of_ble_eq_true rfl) (Nat.le_of_ble_eq_true rfl) (Nat.le_of_ble_eq_true rfl) ?_
    refine z_mmax O zI zm1_13 zm1_14 zm1_11 zm1_15 dX4_soundAsPayer_51 (Nat.le_of_ble_eq_true rfl) (Nat.le_of_ble_eq_true rfl) (Nat.le_of_ble_eq_true rfl) (Nat.le_of_ble_eq_true rfl) ?_
    refine z_put O (fk := 3) (fun x h => zI x (zu_RX4 x h)) tyX4 tyX4_ok nmX4 rfl (by decide) (zI _ zm0_52) rfl dX4_soundAsPayer_54 rfl rfl (zg_seat hk) (Nat.le_of_ble_eq_true rfl) (zp_seat_noise hk) ?_
    refine z_goto O dX4_soundAsPayer_57 (tgt := 74) (by decide) ?_
    exact z_vret O dX4_soundAsPayer_74 (Nat.le_of_ble_eq_true rfl) (Nat.le_of_ble_eq_true rfl) ⟨rfl, by unfold fPay; rw [if_neg h]; rfl, rfl⟩

set_option maxRecDepth 100000 in
set_option maxHeartbeats 4000000 in
theorem c_X4_isInOrder {G : zG} {l : Launch} (hl : l.stackTraces = false) {Z : zM} {sb : Nat → Option Nat} {mcn : Nat → Int32} {cp : Nat → Nat} {Y : zM} {th : Int32} {o : Nat → Int64} {od : Nat → UInt64} {ad : Nat → Nat} {k : Nat} (hk : k < 80) (hwn : zh (Z 2 k) = none → ¬ Z 0 k = 104) (hjj : ∀ j, zh (Z 2 k) = some j → j < zN Z 0 ∧ j < 20 ∧ Z 0 k = 104 ∧ sb j = some k) (hn0 : ¬ Z 3 k < 0) (hn9 : ¬ 9 < Z 3 k) : zCt G l yX4_isInOrder (zws yX4_isInOrder cX4_isInOrder 2 (some .boolean)) ({ frames := 0, cells := 0, slots := 0, locals := 0 }) [.ref (ad (100 + k))] (zent Z sb mcn cp G.2.2.2.1 Y th o od ad) ad (fun r w1 ad1 => some (.int 1) = r ∧ zent Z sb mcn cp G.2.2.2.1 Y th o od ad = w1 ∧ ad = ad1) (zNoX) := by
  refine z_body hl (by decide +kernel) (Nat.le_of_ble_eq_true rfl) (fun X O => ?_)
  cases hz : zh (Z 2 k) with
  | none =>
    refine z_aload_n O dX4_isInOrder_0 rfl ?_
    refine z_get O (fk := 2) (v := .null) (fun x h => zI x (zu_RX4 x h)) rfl (by decide) (zI _ zm2_51) dX4_isInOrder_1 (zg_seat hk) (by simp only [sSeat, hz]; rfl) ?_
    refine z_ifnonnullN O dX4_isInOrder_4 ?_
    refine z_aload_n O dX4_isInOrder_7 rfl ?_
    refine z_get O (fk := 0) (fun x h => zI x (zu_RX4 x h)) rfl (by decide) (zI _ zm2_50) dX4_isInOrder_8 (zg_seat hk) rfl ?_
    refine z_bipush O dX4_isInOrder_11 (v := 104) (by decide) ?_
    refine z_icmp_eq O dX4_isInOrder_13 (tgt := 20) (by decide) (fun g => absurd g (hwn hz)) (fun _ => ?_)
    refine z_iconst O dX4_isInOrder_16 (v := 1) (by decide) ?_
    refine z_goto O dX4_isInOrder_17 (tgt := 49) (by decide) ?_
    refine z_istore_n O dX4_isInOrder_49 (by decide) ?_
    refine z_iload_n O dX4_isInOrder_50 rfl ?_
    refine z_if_eq O dX4_isInOrder_51 (tgt := 74) (by decide) (fun g => absurd g (by decide)) (fun _ => ?_)
    refine z_aload_n O dX4_isInOrder_54 rfl ?_
    refine z_get O (fk := 3) (fun x h => zI x (zu_RX4 x h)) rfl (by decide) (zI _ zm0_52) dX4_isInOrder_55 (zg_seat hk) rfl ?_
    refine z_if_lt O dX4_isInOrder_58 (tgt := 74) (by decide) (fun g => absurd g hn0) (fun _ => ?_)
    refine z_aload_n O dX4_isInOrder_61 rfl ?_
    refine z_get O (fk := 3) (fun x h => zI x (zu_RX4 x h)) rfl (by decide) (zI _ zm0_52) dX4_isInOrder_62 (zg_seat hk) rfl ?_
    refine z_bipush O dX4_isInOrder_65 (v := 9) (by decide) ?_
    refine z_icmp_gt O dX4_isInOrder_67 (tgt := 74) (by decide) (fun g => absurd g hn9) (fun _ => ?_)
    refine z_iconst O dX4_isInOrder_70 (v := 1) (by decide) ?_
    refine z_goto O dX4_isInOrder_71 (tgt := 75) (by decide) ?_
    exact z_zret O rfl rfl dX4_isInOrder_75 (Nat.le_of_ble_eq_true rfl) (Nat.le_of_ble_eq_true rfl) ⟨rfl, rfl, rfl⟩
  | some j =>
    obtain ⟨hj, hj2, hs1, hs2⟩ := hjj j hz
    refine z_aload_n O dX4_isInOrder_0 rfl ?_
    refine z_get O (fk := 2) (v := .ref (ad (200 + j))) (fun x h => zI x (zu_RX4 x h)) rfl (by decide) (zI _ zm2_51) dX4_isInOrder_1 (zg_seat hk) (by simp only [sSeat, hz]; rfl) ?_
    refine z_ifnonnull O dX4_isInOrder_4 (tgt := 24) (by decide) ?_
    refine z_aload_n O dX4_isInOrder_24 rfl ?_
    refine z_get O (fk := 0) (fun x h => zI x (zu_RX4 x h)) rfl (by decide) (zI _ zm2_50) dX4_isInOrder_25 (zg_seat hk) rfl ?_
    refine z_bipush O dX4_isInOrder_28 (v := 104) (by decide) ?_
    refine z_icmp_ne O dX4_isInOrder_30 (tgt := 48) (by decide) (fun g => absurd hs1 g) (fun _ => ?_)
    refine z_aload_n O dX4_isInOrder_33 rfl ?_
    refine z_get O (fk := 2) (v := .ref (ad (200 + j))) (fun x h => zI x (zu_RX4 x h)) rfl (by decide) (zI _ zm2_51) dX4_isInOrder_34 (zg_seat hk) (by simp only [sSeat, hz]; rfl) ?_
    refine z_get O (fk := 5) (v := va_rf (some (ad (100 + k)))) (fun x h => zI x (zu_RX2 x h)) rfl (by decide) (zI _ zm2_59) dX4_isInOrder_37 (zg_hand hj hj2) (by simp only [sHand, hs2]; rfl) ?_
    refine z_aload_n O dX4_isInOrder_40 rfl ?_
    refine z_acmp_ne O (rx := some (ad (100 + k))) (ry := some (ad (100 + k))) dX4_isInOrder_41 (tgt := 48) (by decide) (fun g => absurd rfl g) (fun _ => ?_)
    refine z_iconst O dX4_isInOrder_44 (v := 1) (by decide) ?_
    refine z_goto O dX4_isInOrder_45 (tgt := 49) (by decide) ?_
    refine z_istore_n O dX4_isInOrder_49 (by decide) ?_
    refine z_iload_n O dX4_isInOrder_50 rfl ?_
    refine z_if_eq O dX4_isInOrder_51 (tgt := 74) (by decide) (fun g => absurd g (by decide)) (fun _ => ?_)
    refine z_aload_n O dX4_isInOrder_54 rfl ?_
    refine z_get O (fk := 3) (fun x h => zI x (zu_RX4 x h)) rfl (by decide) (zI _ zm0_52) dX4_isInOrder_55 (zg_seat hk) rfl ?_
    refine z_if_lt O dX4_isInOrder_58 (tgt := 74) (by decide) (fun g => absurd g hn0) (fun _ => ?_)
    refine z_aload_n O dX4_isInOrder_61 rfl ?_
    refine z_get O (fk := 3) (fun x h => zI x (zu_RX4 x h)) rfl (by decide) (zI _ zm0_52) dX4_isInOrder_62 (zg_seat hk) rfl ?_
    refine z_bipush O dX4_isInOrder_65 (v := 9) (by decide) ?_
    refine z_icmp_gt O dX4_isInOrder_67 (tgt := 74) (by decide) (fun g => absurd g hn9) (fun _ => ?_)
    refine z_iconst O dX4_isInOrder_70 (v := 1) (by decide) ?_
    refine z_goto O dX4_isInOrder_71 (tgt := 75) (by decide) ?_
    exact z_zret O rfl rfl dX4_isInOrder_75 (Nat.le_of_ble_eq_true rfl) (Nat.le_of_ble_eq_true rfl) ⟨rfl, rfl, rfl⟩
end
section
def fSum (f : Nat → Int32) : Nat → Int32
  | 0 => 0
  | n + 1 => fSum f n + f n
theorem fSum_z {f : Nat → Int32} {i : Nat} (h : f i = 0) : fSum f (i + 1) = fSum f i := by
  show fSum f i + f i = _
  rw [h]; simp
theorem fSum_1 {f : Nat → Int32} {i : Nat} (h : f i = 1) : fSum f (i + 1) = fSum f i + 1 := by
  show fSum f i + f i = _
  rw [h]
/-- the seat at row x, place y, by its number -/
def fPl (Z : zM) (x y : Int32) : Option Nat := if 0 ≤ x ∧ x < Z 23 0 ∧ 0 ≤ y ∧ y < Z 24 0 then some (x.toNatClampNeg * 10 + y.toNatClampNeg) else none
def rI (a i : Nat) : Int32 := nI a - 1 + nI i
theorem rI_s (a i : Nat) : rI a i + 1 = rI a (i + 1) := by unfold rI; rw [Int32.add_assoc, nI_1]
theorem rI_lt : ∀ a, a < 10 → ∀ i, i < 4 → (nI a + 1 < rI a i ↔ i = 3) := by decide +kernel
theorem rI_eq : ∀ a, a < 10 → ∀ i, i < 4 → (rI a i = nI a ↔ i = 1) := by decide +kernel
/-- one of the nine around row a, place b: itself, nothing, or what a neighbour makes heard -/
def fCell (Z : zM) (a b i j : Nat) (acc : Int32) : Int32 := if i = 1 ∧ j = 1 then acc else match fPl Z (rI a i) (rI b j) with
  | none => acc
  | some k => acc + fHeard Z k
def fRow (Z : zM) (a b i : Nat) (acc : Int32) : Nat → Int32
  | 0 => acc
  | j + 1 => fCell Z a b i j (fRow Z a b i acc j)
def fRows (Z : zM) (a b : Nat) : Nat → Int32
  | 0 => 0
  | i + 1 => fRow Z a b i (fRows Z a b i) 3
def fAround (Z : zM) (a b : Nat) : Int32 := fRows Z a b 3
def zHouse (Z : zM) : Prop := ∃ nr nc : Nat, Z 23 0 = nI nr ∧ Z 24 0 = nI nc ∧ nr ≤ 8 ∧ nc ≤ 10
theorem fPl_lt {Z : zM} (h : zHouse Z) {x y : Int32} {k : Nat} (e : fPl Z x y = some k) : k < 80 := by
  obtain ⟨nr, nc, h1, h2, h3, h4⟩ := h
  unfold fPl at e
  by_cases q : 0 ≤ x ∧ x < Z 23 0 ∧ 0 ≤ y ∧ y < Z 24 0
  · rw [if_pos q] at e
    cases e
    obtain ⟨q1, q2, q3, q4⟩ := q
    obtain ⟨a, ha, rfl⟩ := nI_of (x := x) (fun z => absurd q1 (Int32.not_le.mpr z))
    obtain ⟨b, hb, rfl⟩ := nI_of (x := y) (fun z => absurd q3 (Int32.not_le.mpr z))
    rw [h1] at q2; rw [h2] at q4
    have h5 := (nI_ltI ha (by omega)).mp q2
    have h6 := (nI_ltI hb (by omega)).mp q4
    rw [nI_clamp ha, nI_clamp hb]
    omega
  · rw [if_neg q] at e; cases e
set_option maxRecDepth 100000 in
set_option maxHeartbeats 4000000 in
theorem c_X3_seatOrNull {G : zG} {l : Launch} (hl : l.stackTraces = false) {Z : zM} {sb : Nat → Option Nat} {mcn : Nat → Int32} {cp : Nat → Nat} {Y : zM} {th : Int32} {o : Nat → Int64} {od : Nat → UInt64} {ad : Nat → Nat} (hh : zHouse Z) {x y : Int32} : zCt G l yX3_seatOrNull (zws yX3_seatOrNull cX3_seatOrNull 4 (some (.object "ClaqueRow$Seat"))) ({ frames := 0, cells := 0, slots := 0, locals := 0 }) [.ref (ad 1), .int x, .int y] (zent Z sb mcn cp G.2.2.2.1 Y th o od ad) ad (fun r w1 ad1 => some (va_rf ((fPl Z x y).map (fun k => ad (100 + k)))) = r ∧ zent Z sb mcn cp G.2.2.2.1 Y th o od ad = w1 ∧ ad = ad1) (zNoX) := by
  refine z_body hl (by decide +kernel) (Nat.le_of_ble_eq_true rfl) (fun X O => ?_)
  refine z_iload_n O dX3_seatOrNull_0 rfl ?_
  refine z_if_lt O dX3_seatOrNull_1 (tgt := 24) (by decide) (fun h1 => ?_) (fun h1 => ?_)
  · refine z_null O dX3_seatOrNull_24 ?_
    exact z_aret O (r := none) rfl (by first | exact Or.inl ⟨_, rfl⟩ | exact Or.inr ⟨_, rfl⟩) dX3_seatOrNull_25 (Nat.le_of_ble_eq_true rfl) (Nat.le_of_ble_eq_true rfl) ⟨(by unfold fPl; rw [if_neg (fun q => absurd q.1 (Int32.not_le.mpr h1))]; rfl), rfl, rfl⟩
  · refine z_iload_n O dX3_seatOrNull_4 rfl ?_
    refine z_aload_n O dX3_seatOrNull_5 rfl ?_
    refine z_get O (fk := 1) (fun x h => zI x (zu_RX3 x h)) rfl (by decide) (zI _ zm0_63) dX3_seatOrNull_6 (zg_house) rfl ?_
    refine z_icmp_ge O dX3_seatOrNull_9 (tgt := 24) (by decide) (fun h2 => ?_) (fun h2 => ?_)
    · refine z_null O dX3_seatOrNull_24 ?_
      exact z_aret O (r := none) rfl (by first | exact Or.inl ⟨_, rfl⟩ | exact Or.inr ⟨_, rfl⟩) dX3_seatOrNull_25 (Nat.le_of_ble_eq_true rfl) (Nat.le_of_ble_eq_true rfl) ⟨(by unfold fPl; rw [if_neg (fun q => absurd q.2.1 (Int32.not_lt.mpr h2))]; rfl), rfl, rfl⟩
    · refine z_iload_n O dX3_seatOrNull_12 rfl ?_
      refine z_if_lt O dX3_seatOrNull_13 (tgt := 24) (by decide) (fun h3 => ?_) (fun h3 => ?_)
      · refine z_null O dX3_seatOrNull_24 ?_
        exact z_aret O (r := none) rfl (by first | exact Or.inl ⟨_, rfl⟩ | exact Or.inr ⟨_, rfl⟩) dX3_seatOrNull_25 (Nat.le_of_ble_eq_true rfl) (Nat.le_of_ble_eq_true rfl) ⟨(by unfold fPl; rw [if_neg (fun q => absurd q.2.2.1 (Int32.not_le.mpr h3))]; rfl), rfl, rfl⟩
      · refine z_iload_n O dX3_seatOrNull_16 rfl ?_
        refine z_aload_n O dX3_seatOrNull_17 rfl ?_
        refine z_get O (fk := 2) (fun x h => zI x (zu_RX3 x h)) rfl (by decide) (zI _ zm0_64) dX3_seatOrNull_18 (zg_house) rfl ?_
        refine z_icmp_lt O dX3_seatOrNull_21 (tgt := 26) (by decide) (fun h4 => ?_) (fun h4 => ?_)
        · obtain ⟨nr, nc, e1, e2, l1, l2⟩ := hh
          obtain ⟨a, ha, rfl⟩ := nI_of h1
          obtain ⟨b, hb, rfl⟩ := nI_of h3
          have h2a : a < nr := by rw [e1] at h2; exact z_ge_lt ha (by omega) h2
          have h4a : b < nc := by rw [e2] at h4; exact (nI_ltI hb (by omega)).mp h4
          have hix : nI a * 10 + nI b = nI (a * 10 + b) := by rw [show (10 : Int32) = nI 10 from rfl, pk_mul, nI_add]
          refine z_iload_n O dX3_seatOrNull_26 rfl ?_
          refine z_bipush O dX3_seatOrNull_27 (v := 10) (by decide) ?_
          refine z_imul O dX3_seatOrNull_29 ?_
          refine z_iload_n O dX3_seatOrNull_30 rfl ?_
          refine z_iadd O dX3_seatOrNull_31 ?_
          refine z_istore_n O dX3_seatOrNull_32 (by decide) ?_
          refine z_iload_n O dX3_seatOrNull_33 rfl ?_
          refine z_aload_n O dX3_seatOrNull_34 rfl ?_
          refine z_get O (fk := 0) (fun x h => zI x (zu_RX3 x h)) rfl (by decide) (zI _ zm0_57) dX3_seatOrNull_35 (zg_house) rfl ?_
          refine z_alen O (t := 5) (by decide) dX3_seatOrNull_38 (zg_arr) ?_
          refine z_icmp_ge O dX3_seatOrNull_39 (tgt := 51) (by decide) (fun g => ?_) (fun _ => ?_)
          · rw [hix] at g; exact absurd (z_ge_ge (b := 80) (by omega) (by decide) g) (by omega)
          · refine z_aload_n O dX3_seatOrNull_42 rfl ?_
            refine z_get O (fk := 0) (fun x h => zI x (zu_RX3 x h)) rfl (by decide) (zI _ zm0_57) dX3_seatOrNull_43 (zg_house) rfl ?_
            refine z_iload_n O dX3_seatOrNull_46 rfl ?_
            refine z_aald O (Or.inl rfl) dX3_seatOrNull_47 (zg_arr) (a * 10 + b) hix (by omega) (by decide) ?_
            refine z_goto O dX3_seatOrNull_48 (tgt := 52) (by decide) ?_
            exact z_aret O (r := (some (ad (100 + (a * 10 + b))))) rfl (by first | exact Or.inl ⟨_, rfl⟩ | exact Or.inr ⟨_, rfl⟩) dX3_seatOrNull_52 (Nat.le_of_ble_eq_true rfl) (Nat.le_of_ble_eq_true rfl) ⟨by unfold fPl; rw [if_pos ⟨Int32.not_lt.mp h1, Int32.not_le.mp h2, Int32.not_lt.mp h3, h4⟩, nI_clamp ha, nI_clamp hb]; rfl, rfl, rfl⟩
        · refine z_null O dX3_seatOrNull_24 ?_
          exact z_aret O (r := none) rfl (by first | exact Or.inl ⟨_, rfl⟩ | exact Or.inr ⟨_, rfl⟩) dX3_seatOrNull_25 (Nat.le_of_ble_eq_true rfl) (Nat.le_of_ble_eq_true rfl) ⟨(by unfold fPl; rw [if_neg (fun q => absurd q.2.2.2 h4)]; rfl), rfl, rfl⟩

set_option maxRecDepth 100000 in
set_option maxHeartbeats 4000000 in
theorem c_X3_noiseSum {G : zG} {l : Launch} (hl : l.stackTraces = false) {Z : zM} {sb : Nat → Option Nat} {mcn : Nat → Int32} {cp : Nat → Nat} {Y : zM} {th : Int32} {o : Nat → Int64} {od : Nat → UInt64} {ad : Nat → Nat} : zCt G l yX3_noiseSum (zws yX3_noiseSum cX3_noiseSum 6 (some .int)) ({ frames := 0, cells := 0, slots := 0, locals := 0 }) [.ref (ad 1)] (zent Z sb mcn cp G.2.2.2.1 Y th o od ad) ad (fun r w1 ad1 => some (.int (fSum (Z 3) 80)) = r ∧ zent Z sb mcn cp G.2.2.2.1 Y th o od ad = w1 ∧ ad = ad1) (zNoX) := by
  refine z_body hl (by decide +kernel) (Nat.le_of_ble_eq_true rfl) (fun X O => ?_)
  have L : ∀ (n : Nat) (i : Nat) (acc : Int32), i ≤ 80 → 80 < i + n → acc = fSum (Z 3) i → zV G X 6 0 0 13 [(0, .ref (ad 1)), (1, .int acc), (2, .ref (ad 2)), (3, .int (nI 80)), (4, .int (nI i))] [] (zent Z sb mcn cp G.2.2.2.1 Y th o od ad) ad := by
    intro n
    induction n with
    | zero => intro i acc h1 h2 hacc; omega
    | succ n ih =>
      intro i acc h1 h2 hacc
      refine z_iload O dX3_noiseSum_13 rfl ?_
      refine z_iload_n O dX3_noiseSum_15 rfl ?_
      refine z_icmp_ge O dX3_noiseSum_16 (tgt := 39) (by decide) (fun h => ?_) (fun h => ?_)
      · have hi : i = 80 := by have := z_ge_ge (by omega) (by decide) h; omega
        subst hi
        refine z_iload_n O dX3_noiseSum_39 rfl ?_
        exact z_iret O dX3_noiseSum_40 (Nat.le_of_ble_eq_true rfl) (Nat.le_of_ble_eq_true rfl) ⟨by subst hacc; rfl, rfl, rfl⟩
      · have hi : i < 80 := z_ge_lt (by omega) (by decide) h
        refine z_aload_n O dX3_noiseSum_19 rfl ?_
        refine z_iload O dX3_noiseSum_20 rfl ?_
        refine z_aald O (Or.inl rfl) dX3_noiseSum_22 (zg_arr) i rfl hi (by decide) ?_
        refine z_astore O dX3_noiseSum_23 (by decide) ?_
        refine z_iload_n O dX3_noiseSum_25 rfl ?_
        refine z_aload O dX3_noiseSum_26 rfl ?_
        refine z_get O (fk := 3) (fun x h => zI x (zu_RX4 x h)) rfl (by decide) (zI _ zm2_5) dX3_noiseSum_28 (zg_seat hi) rfl ?_
        refine z_iadd O dX3_noiseSum_31 ?_
        refine z_istore_n O dX3_noiseSum_32 (by decide) ?_
        refine z_iincN O dX3_noiseSum_33 (a := i) rfl (by decide) ?_
        refine z_goto O dX3_noiseSum_36 (tgt := 13) (by decide) ?_
        exact zV.loc (ih (i + 1) _ (by omega) (by omega) (by rw [hacc]; rfl)) ⟨rfl, rfl, rfl, rfl, rfl, trivial⟩
  refine z_iconst O dX3_noiseSum_0 (v := 0) (by decide) ?_
  refine z_istore_n O dX3_noiseSum_1 (by decide) ?_
  refine z_aload_n O dX3_noiseSum_2 rfl ?_
  refine z_get O (fk := 0) (fun x h => zI x (zu_RX3 x h)) rfl (by decide) (zI _ zm0_57) dX3_noiseSum_3 (zg_house) rfl ?_
  refine z_astore_n O dX3_noiseSum_6 (by decide) ?_
  refine z_aload_n O dX3_noiseSum_7 rfl ?_
  refine z_alen O (t := 5) (by decide) dX3_noiseSum_8 (zg_arr) ?_
  refine z_istore_n O dX3_noiseSum_9 (by decide) ?_
  refine z_iconst O dX3_noiseSum_10 (v := 0) (by decide) ?_
  refine z_istore O dX3_noiseSum_11 (by decide) ?_
  exact zV.loc (L 81 0 _ (by omega) (by omega) rfl) ⟨rfl, rfl, rfl, rfl, rfl, trivial⟩

def fJoined (Z : zM) : Int32 := fSum (fun k => if Z 6 k = 0 then 0 else 1) 80
set_option maxRecDepth 100000 in
set_option maxHeartbeats 4000000 in
theorem c_X3_countJoined {G : zG} {l : Launch} (hl : l.stackTraces = false) {Z : zM} {sb : Nat → Option Nat} {mcn : Nat → Int32} {cp : Nat → Nat} {Y : zM} {th : Int32} {o : Nat → Int64} {od : Nat → UInt64} {ad : Nat → Nat} : zCt G l yX3_countJoined (zws yX3_countJoined cX3_countJoined 6 (some .int)) ({ frames := 0, cells := 0, slots := 0, locals := 0 }) [.ref (ad 1)] (zent Z sb mcn cp G.2.2.2.1 Y th o od ad) ad (fun r w1 ad1 => some (.int (fJoined Z)) = r ∧ zent Z sb mcn cp G.2.2.2.1 Y th o od ad = w1 ∧ ad = ad1) (zNoX) := by
  refine z_body hl (by decide +kernel) (Nat.le_of_ble_eq_true rfl) (fun X O => ?_)
  have L : ∀ (n : Nat) (i : Nat) (acc : Int32), i ≤ 80 → 80 < i + n → acc = fSum (fun k => if Z 6 k = 0 then 0 else 1) i → zV G X 6 0 0 13 [(0, .ref (ad 1)), (1, .int acc), (2, .ref (ad 2)), (3, .int (nI 80)), (4, .int (nI i))] [] (zent Z sb mcn cp G.2.2.2.1 Y th o od ad) ad := by
    intro n
    induction n with
    | zero => intro i acc h1 h2 hacc; omega
    | succ n ih =>
      intro i acc h1 h2 hacc
      refine z_iload O dX3_countJoined_13 rfl ?_
      refine z_iload_n O dX3_countJoined_15 rfl ?_
      refine z_icmp_ge O dX3_countJoined_16 (tgt := 42) (by decide) (fun h => ?_) (fun h => ?_)
      · have hi : i = 80 := by have := z_ge_ge (by omega) (by decide) h; omega
        subst hi
        refine z_iload_n O dX3_countJoined_42 rfl ?_
        exact z_iret O dX3_countJoined_43 (Nat.le_of_ble_eq_true rfl) (Nat.le_of_ble_eq_true rfl) ⟨by subst hacc; rfl, rfl, rfl⟩
      · have hi : i < 80 := z_ge_lt (by omega) (by decide) h
        refine z_aload_n O dX3_countJoined_19 rfl ?_
        refine z_iload O dX3_countJoined_20 rfl ?_
        refine z_aald O (Or.inl rfl) dX3_countJoined_22 (zg_arr) i rfl hi (by decide) ?_
        refine z_astore O dX3_countJoined_23 (by decide) ?_
        refine z_aload O dX3_countJoined_25 rfl ?_
        refine z_get O (fk := 5) (fun x h => zI x (zu_RX4 x h)) rfl (by decide) (zI _ zm3_0) dX3_countJoined_27 (zg_seat hi) rfl ?_
        refine z_if_eq O dX3_countJoined_30 (tgt := 36) (by decide) (fun g => ?_) (fun g => ?_)
        · refine z_iincN O dX3_countJoined_36 (a := i) rfl (by decide) ?_
          refine z_goto O dX3_countJoined_39 (tgt := 13) (by decide) ?_
          exact zV.loc (ih (i + 1) _ (by omega) (by omega) (by rw [hacc, fSum_z (f := fun k => if Z 6 k = 0 then 0 else 1) (if_pos g)])) ⟨rfl, rfl, rfl, rfl, rfl, trivial⟩
        · refine z_iinc1 O dX3_countJoined_33 rfl (by decide) ?_
          refine z_iincN O dX3_countJoined_36 (a := i) rfl (by decide) ?_
          refine z_goto O dX3_countJoined_39 (tgt := 13) (by decide) ?_
          exact zV.loc (ih (i + 1) _ (by omega) (by omega) (by rw [hacc, fSum_1 (f := fun k => if Z 6 k = 0 then 0 else 1) (if_neg g)])) ⟨rfl, rfl, rfl, rfl, rfl, trivial⟩
  refine z_iconst O dX3_countJoined_0 (v := 0) (by decide) ?_
  refine z_istore_n O dX3_countJoined_1 (by decide) ?_
  refine z_aload_n O dX3_countJoined_2 rfl ?_
  refine z_get O (fk := 0) (fun x h => zI x (zu_RX3 x h)) rfl (by decide) (zI _ zm0_57) dX3_countJoined_3 (zg_house) rfl ?_
  refine z_astore_n O dX3_countJoined_6 (by decide) ?_
  refine z_aload_n O dX3_countJoined_7 rfl ?_
  refine z_alen O (t := 5) (by decide) dX3_countJoined_8 (zg_arr) ?_
  refine z_istore_n O dX3_countJoined_9 (by decide) ?_
  refine z_iconst O dX3_countJoined_10 (v := 0) (by decide) ?_
  refine z_istore O dX3_countJoined_11 (by decide) ?_
  exact zV.loc (L 81 0 _ (by omega) (by omega) rfl) ⟨rfl, rfl, rfl, rfl, rfl, trivial⟩

def fSeated (Z : zM) (ch : Int32) : Int32 := fSum (fun k => if Z 0 k = ch then 1 else 0) 80
set_option maxRecDepth 100000 in
set_option maxHeartbeats 4000000 in
theorem c_X3_countSeated {G : zG} {l : Launch} (hl : l.stackTraces = false) {Z : zM} {sb : Nat → Option Nat} {mcn : Nat → Int32} {cp : Nat → Nat} {Y : zM} {th : Int32} {o : Nat → Int64} {od : Nat → UInt64} {ad : Nat → Nat} {ch : Int32} : zCt G l yX3_countSeated (zws yX3_countSeated cX3_countSeated 7 (some .int)) ({ frames := 0, cells := 0, slots := 0, locals := 0 }) [.ref (ad 1), .int ch] (zent Z sb mcn cp G.2.2.2.1 Y th o od ad) ad (fun r w1 ad1 => some (.int (fSeated Z ch)) = r ∧ zent Z sb mcn cp G.2.2.2.1 Y th o od ad = w1 ∧ ad = ad1) (zNoX) := by
  refine z_body hl (by decide +kernel) (Nat.le_of_ble_eq_true rfl) (fun X O => ?_)
  have L : ∀ (n : Nat) (i : Nat) (acc : Int32), i ≤ 80 → 80 < i + n → acc = fSum (fun k => if Z 0 k = ch then 1 else 0) i → zV G X 7 0 0 14 [(0, .ref (ad 1)), (1, .int ch), (2, .int acc), (3, .ref (ad 2)), (4, .int (nI 80)), (5, .int (nI i))] [] (zent Z sb mcn cp G.2.2.2.1 Y th o od ad) ad := by
    intro n
    induction n with
    | zero => intro i acc h1 h2 hacc; omega
    | succ n ih =>
      intro i acc h1 h2 hacc
      refine z_iload O dX3_countSeated_14 rfl ?_
      refine z_iload O dX3_countSeated_16 rfl ?_
      refine z_icmp_ge O dX3_countSeated_18 (tgt := 45) (by decide) (fun h => ?_) (fun h => ?_)
      · have hi : i = 80 := by have := z_ge_ge (by omega) (by decide) h; omega
        subst hi
        refine z_iload_n O dX3_countSeated_45 rfl ?_
        exact z_iret O dX3_countSeated_46 (Nat.le_of_ble_eq_true rfl) (Nat.le_of_ble_eq_true rfl) ⟨by subst hacc; rfl, rfl, rfl⟩
      · have hi : i < 80 := z_ge_lt (by omega) (by decide) h
        refine z_aload_n O dX3_countSeated_21 rfl ?_
        refine z_iload O dX3_countSeated_22 rfl ?_
        refine z_aald O (Or.inl rfl) dX3_countSeated_24 (zg_arr) i rfl hi (by decide) ?_
        refine z_astore O dX3_countSeated_25 (by decide) ?_
        refine z_aload O dX3_countSeated_27 rfl ?_
        refine z_get O (fk := 0) (fun x h => zI x (zu_RX4 x h)) rfl (by decide) (zI _ zm2_15) dX3_countSeated_29 (zg_seat hi) rfl ?_
        refine z_iload_n O dX3_countSeated_32 rfl ?_
        refine z_icmp_ne O dX3_countSeated_33 (tgt := 39) (by decide) (fun g => ?_) (fun g => ?_)
        · refine z_iincN O dX3_countSeated_39 (a := i) rfl (by decide) ?_
          refine z_goto O dX3_countSeated_42 (tgt := 14) (by decide) ?_
          exact zV.loc (ih (i + 1) _ (by omega) (by omega) (by rw [hacc, fSum_z (f := fun k => if Z 0 k = ch then 1 else 0) (if_neg g)])) ⟨rfl, rfl, rfl, rfl, rfl, rfl, trivial⟩
        · refine z_iinc1 O dX3_countSeated_36 rfl (by decide) ?_
          refine z_iincN O dX3_countSeated_39 (a := i) rfl (by decide) ?_
          refine z_goto O dX3_countSeated_42 (tgt := 14) (by decide) ?_
          exact zV.loc (ih (i + 1) _ (by omega) (by omega) (by rw [hacc, fSum_1 (f := fun k => if Z 0 k = ch then 1 else 0) (if_pos g)])) ⟨rfl, rfl, rfl, rfl, rfl, rfl, trivial⟩
  refine z_iconst O dX3_countSeated_0 (v := 0) (by decide) ?_
  refine z_istore_n O dX3_countSeated_1 (by decide) ?_
  refine z_aload_n O dX3_countSeated_2 rfl ?_
  refine z_get O (fk := 0) (fun x h => zI x (zu_RX3 x h)) rfl (by decide) (zI _ zm0_57) dX3_countSeated_3 (zg_house) rfl ?_
  refine z_astore_n O dX3_countSeated_6 (by decide) ?_
  refine z_aload_n O dX3_countSeated_7 rfl ?_
  refine z_alen O (t := 5) (by decide) dX3_countSeated_8 (zg_arr) ?_
  refine z_istore O dX3_countSeated_9 (by decide) ?_
  refine z_iconst O dX3_countSeated_11 (v := 0) (by decide) ?_
  refine z_istore O dX3_countSeated_12 (by decide) ?_
  exact zV.loc (L 81 0 _ (by omega) (by omega) rfl) ⟨rfl, rfl, rfl, rfl, rfl, rfl, trivial⟩

def fNoisy (Z : zM) (ch : Int32) : Int32 := fSum (fun k => if Z 0 k = ch ∧ 0 < Z 3 k then 1 else 0) 80
set_option maxRecDepth 100000 in
set_option maxHeartbeats 4000000 in
theorem c_X3_countNoisy {G : zG} {l : Launch} (hl : l.stackTraces = false) {Z : zM} {sb : Nat → Option Nat} {mcn : Nat → Int32} {cp : Nat → Nat} {Y : zM} {th : Int32} {o : Nat → Int64} {od : Nat → UInt64} {ad : Nat → Nat} {ch : Int32} : zCt G l yX3_countNoisy (zws yX3_countNoisy cX3_countNoisy 7 (some .int)) ({ frames := 0, cells := 0, slots := 0, locals := 0 }) [.ref (ad 1), .int ch] (zent Z sb mcn cp G.2.2.2.1 Y th o od ad) ad (fun r w1 ad1 => some (.int (fNoisy Z ch)) = r ∧ zent Z sb mcn cp G.2.2.2.1 Y th o od ad = w1 ∧ ad = ad1) (zNoX) := by
  refine z_body hl (by decide +kernel) (Nat.le_of_ble_eq_true rfl) (fun X O => ?_)
  have L : ∀ (n : Nat) (i : Nat) (acc : Int32), i ≤ 80 → 80 < i + n → acc = fSum (fun k => if Z 0 k = ch ∧ 0 < Z 3 k then 1 else 0) i → zV G X 7 0 0 14 [(0, .ref (ad 1)), (1, .int ch), (2, .int acc), (3, .ref (ad 2)), (4, .int (nI 80)), (5, .int (nI i))] [] (zent Z sb mcn cp G.2.2.2.1 Y th o od ad) ad := by
    intro n
    induction n with
    | zero => intro i acc h1 h2 hacc; omega
    | succ n ih =>
      intro i acc h1 h2 hacc
      refine z_iload O dX3_countNoisy_14 rfl ?_
      refine z_iload O dX3_countNoisy_16 rfl ?_
      refine z_icmp_ge O dX3_countNoisy_18 (tgt := 53) (by decide) (fun h => ?_) (fun h => ?_)
      · have hi : i = 80 := by have := z_ge_ge (by omega) (by decide) h; omega
        subst hi
        refine z_iload_n O dX3_countNoisy_53 rfl ?_
        exact z_iret O dX3_countNoisy_54 (Nat.le_of_ble_eq_true rfl) (Nat.le_of_ble_eq_true rfl) ⟨by subst hacc; rfl, rfl, rfl⟩
      · have hi : i < 80 := z_ge_lt (by omega) (by decide) h
        refine z_aload_n O dX3_countNoisy_21 rfl ?_
        refine z_iload O dX3_countNoisy_22 rfl ?_
        refine z_aald O (Or.inl rfl) dX3_countNoisy_24 (zg_arr) i rfl hi (by decide) ?_
        refine z_astore O dX3_countNoisy_25 (by decide) ?_
        refine z_aload O dX3_countNoisy_27 rfl ?_
        refine z_get O (fk := 0) (fun x h => zI x (zu_RX4 x h)) rfl (by decide) (zI _ zm2_15) dX3_countNoisy_29 (zg_seat hi) rfl ?_
        refine z_iload_n O dX3_countNoisy_32 rfl ?_
        refine z_icmp_ne O dX3_countNoisy_33 (tgt := 47) (by decide) (fun g => ?_) (fun g => ?_)
        · refine z_iincN O dX3_countNoisy_47 (a := i) rfl (by decide) ?_
          refine z_goto O dX3_countNoisy_50 (tgt := 14) (by decide) ?_
          exact zV.loc (ih (i + 1) _ (by omega) (by omega) (by rw [hacc, fSum_z (f := fun k => if Z 0 k = ch ∧ 0 < Z 3 k then 1 else 0) (if_neg (fun q => g q.1))])) ⟨rfl, rfl, rfl, rfl, rfl, rfl, trivial⟩
        · refine z_aload O dX3_countNoisy_36 rfl ?_
          refine z_get O (fk := 3) (fun x h => zI x (zu_RX4 x h)) rfl (by decide) (zI _ zm2_5) dX3_countNoisy_38 (zg_seat hi) rfl ?_
          refine z_if_le O dX3_countNoisy_41 (tgt := 47) (by decide) (fun g2 => ?_) (fun g2 => ?_)
          · refine z_iincN O dX3_countNoisy_47 (a := i) rfl (by decide) ?_
            refine z_goto O dX3_countNoisy_50 (tgt := 14) (by decide) ?_
            exact zV.loc (ih (i + 1) _ (by omega) (by omega) (by rw [hacc, fSum_z (f := fun k => if Z 0 k = ch ∧ 0 < Z 3 k then 1 else 0) (if_neg (fun q => absurd q.2 (Int32.not_lt.mpr g2)))])) ⟨rfl, rfl, rfl, rfl, rfl, rfl, trivial⟩
          · refine z_iinc1 O dX3_countNoisy_44 rfl (by decide) ?_
            refine z_iincN O dX3_countNoisy_47 (a := i) rfl (by decide) ?_
            refine z_goto O dX3_countNoisy_50 (tgt := 14) (by decide) ?_
            exact zV.loc (ih (i + 1) _ (by omega) (by omega) (by rw [hacc, fSum_1 (f := fun k => if Z 0 k = ch ∧ 0 < Z 3 k then 1 else 0) (if_pos ⟨g, Int32.not_le.mp g2⟩)])) ⟨rfl, rfl, rfl, rfl, rfl, rfl, trivial⟩
  refine z_iconst O dX3_countNoisy_0 (v := 0) (by decide) ?_
  refine z_istore_n O dX3_countNoisy_1 (by decide) ?_
  refine z_aload_n O dX3_countNoisy_2 rfl ?_
  refine z_get O (fk := 0) (fun x h => zI x (zu_RX3 x h)) rfl (by decide) (zI _ zm0_57) dX3_countNoisy_3 (zg_house) rfl ?_
  refine z_astore_n O dX3_countNoisy_6 (by decide) ?_
  refine z_aload_n O dX3_countNoisy_7 rfl ?_
  refine z_alen O (t := 5) (by decide) dX3_countNoisy_8 (zg_arr) ?_
  refine z_istore O dX3_countNoisy_9 (by decide) ?_
  refine z_iconst O dX3_countNoisy_11 (v := 0) (by decide) ?_
  refine z_istore O dX3_countNoisy_12 (by decide) ?_
  exact zV.loc (L 81 0 _ (by omega) (by omega) rfl) ⟨rfl, rfl, rfl, rfl, rfl, rfl, trivial⟩
end
section
def fIter (g : zM → Nat → zM) (Z : zM) : Nat → zM
  | 0 => Z
  | i + 1 => g (fIter g Z i) i
theorem fKeep_7 (Z : zM) (i k : Nat) : fIter fKeep Z i 7 k = Z 7 k := by
  induction i with
  | zero => rfl
  | succ i ih => show zu (zu (fIter fKeep Z i) 5 i (fIter fKeep Z i 3 i)) 8 i (fIter fKeep Z i 7 i) 7 k = _; rw [zu_f (by decide), zu_f (by decide), ih]
/-- all seats empty: the numbers, and which hand sits where -/
def fBuild (Z : zM) (sb : Nat → Option Nat) : Nat → zM × (Nat → Option Nat)
  | 0 => (Z, sb)
  | i + 1 => (fTake (fBuild Z sb i).1 i 46, fUn (fBuild Z sb i).1 (fBuild Z sb i).2 i)
theorem fTake_at (Z : zM) (k : Nat) (c : Int32) (f j : Nat) : fTake Z k c f j = if j = k then (if f = 0 then c else if f = 2 then -1 else if f = 1 ∨ f = 3 ∨ f = 4 ∨ f = 6 ∨ f = 7 then 0 else Z f j) else Z f j := by
  unfold fTake fRest zu
  by_cases hj : j = k
  · subst hj
    simp only [and_true, if_true]
    repeat' split
    all_goals first | rfl | omega
  · simp [hj]
/-- what holds of seats at all times: characters, hands that there are -/
def zSeats (Z : zM) : Prop := ∀ k, k < 80 → zChr (Z 0 k) ∧ (zh (Z 2 k) = none → Z 2 k = -1) ∧ ∀ j, zh (Z 2 k) = some j → j < zN Z 0 ∧ j < 20
theorem zSeats_take {Z : zM} (h : zSeats Z) {k : Nat} {c : Int32} (hc : zChr c) : zSeats (fTake Z k c) := by
  intro b hb
  obtain ⟨h1, h2, h3⟩ := h b hb
  have hN : zN (fTake Z k c) 0 = zN Z 0 := by simp [zN, fTake_at]
  rw [hN, fTake_at, fTake_at]
  by_cases hbk : b = k
  · simp only [if_pos hbk, if_true]
    exact ⟨hc, fun _ => rfl, fun j hj => by simp [zh] at hj⟩
  · simp only [if_neg hbk]
    exact ⟨h1, h2, h3⟩
theorem zChr_46 : zChr 46 := by unfold zChr; decide
theorem zSeats_build {Z : zM} {sb : Nat → Option Nat} (h : zSeats Z) : ∀ i, zSeats (fBuild Z sb i).1
  | 0 => h
  | i + 1 => zSeats_take (zSeats_build h i) zChr_46
theorem rI_0 (a : Nat) : nI a - 1 = rI a 0 := by unfold rI; rw [nI_0]; simp
set_option maxRecDepth 100000 in
set_option maxHeartbeats 4000000 in
theorem c_X3_forgetEvening {G : zG} {l : Launch} (hl : l.stackTraces = false) {Z : zM} {sb : Nat → Option Nat} {mcn : Nat → Int32} {cp : Nat → Nat} {Y : zM} {th : Int32} {o : Nat → Int64} {od : Nat → UInt64} {ad : Nat → Nat} : zCt G l yX3_forgetEvening (zws yX3_forgetEvening cX3_forgetEvening 5 none) ({ frames := 1, cells := 0, slots := 0, locals := 20 }) [.ref (ad 1)] (zent Z sb mcn cp G.2.2.2.1 Y th o od ad) ad (fun r w1 ad1 => none = r ∧ zent (fIter fRest Z 80) sb mcn cp G.2.2.2.1 Y th o od ad = w1 ∧ ad = ad1) (zNoX) := by
  refine z_body hl (by decide +kernel) (Nat.le_of_ble_eq_true rfl) (fun X O => ?_)
  have L : ∀ (n : Nat) (i : Nat), i ≤ 80 → 80 < i + n → zV G X 5 0 0 10 [(0, .ref (ad 1)), (1, .ref (ad 2)), (2, .int (nI 80)), (3, .int (nI i))] [] (zent (fIter fRest Z i) sb mcn cp G.2.2.2.1 Y th o od ad) ad := by
    intro n
    induction n with
    | zero => intro i h1 h2; omega
    | succ n ih =>
      intro i h1 h2
      refine z_iload_n O dX3_forgetEvening_10 rfl ?_
      refine z_iload_n O dX3_forgetEvening_11 rfl ?_
      refine z_icmp_ge O dX3_forgetEvening_12 (tgt := 31) (by decide) (fun h => ?_) (fun h => ?_)
      · have hi : i = 80 := by have := z_ge_ge (by omega) (by decide) h; omega
        subst hi
        exact z_vret O dX3_forgetEvening_31 (Nat.le_of_ble_eq_true rfl) (Nat.le_of_ble_eq_true rfl) ⟨rfl, rfl, rfl⟩
      · have hi : i < 80 := z_ge_lt (by omega) (by decide) h
        refine z_aload_n O dX3_forgetEvening_15 rfl ?_
        refine z_iload_n O dX3_forgetEvening_16 rfl ?_
        refine z_aald O (Or.inl rfl) dX3_forgetEvening_17 (zg_arr) i rfl hi (by decide) ?_
        refine z_astore O dX3_forgetEvening_18 (by decide) ?_
        refine z_aload O dX3_forgetEvening_20 rfl ?_
        refine z_callV O (c_X4_forgetEvening hl hi) zI zm2_68 zm2_61 zm2_62 zm0_61 zm2_57 ⟨rfl, by decide +kernel, by decide +kernel, (show _ = some 0 by decide +kernel)⟩ rfl (zg_seat hi) ⟨Nat.le_of_ble_eq_true rfl, Nat.le_of_ble_eq_true rfl⟩ ⟨Nat.le_of_ble_eq_true rfl, Nat.le_of_ble_eq_true rfl⟩ dX3_forgetEvening_22 rfl (Nat.le_of_ble_eq_true rfl) (fun _ _ _ h => h.elim) (fun r w1 ad1 hp => ?_)
        obtain ⟨rfl, rfl, rfl⟩ := hp
        refine z_iincN O dX3_forgetEvening_25 (a := i) rfl (by decide) ?_
        refine z_goto O dX3_forgetEvening_28 (tgt := 10) (by decide) ?_
        exact zV.loc (ih (i + 1) (by omega) (by omega)) ⟨rfl, rfl, rfl, rfl, trivial⟩
  refine z_aload_n O dX3_forgetEvening_0 rfl ?_
  refine z_get O (fk := 0) (fun x h => zI x (zu_RX3 x h)) rfl (by decide) (zI _ zm0_57) dX3_forgetEvening_1 (zg_house) rfl ?_
  refine z_astore_n O dX3_forgetEvening_4 (by decide) ?_
  refine z_aload_n O dX3_forgetEvening_5 rfl ?_
  refine z_alen O (t := 5) (by decide) dX3_forgetEvening_6 (zg_arr) ?_
  refine z_istore_n O dX3_forgetEvening_7 (by decide) ?_
  refine z_iconst O dX3_forgetEvening_8 (v := 0) (by decide) ?_
  refine z_istore_n O dX3_forgetEvening_9 (by decide) ?_
  exact zV.loc (L 81 0 (by omega) (by omega)) ⟨rfl, rfl, rfl, rfl, trivial⟩

set_option maxRecDepth 100000 in
set_option maxHeartbeats 4000000 in
theorem c_X3_keepTickAhead {G : zG} {l : Launch} (hl : l.stackTraces = false) {Z : zM} {sb : Nat → Option Nat} {mcn : Nat → Int32} {cp : Nat → Nat} {Y : zM} {th : Int32} {o : Nat → Int64} {od : Nat → UInt64} {ad : Nat → Nat} (hb7 : ∀ k, k < 80 → zBol (Z 7 k)) : zCt G l yX3_keepTickAhead (zws yX3_keepTickAhead cX3_keepTickAhead 5 none) ({ frames := 1, cells := 0, slots := 0, locals := 20 }) [.ref (ad 1)] (zent Z sb mcn cp G.2.2.2.1 Y th o od ad) ad (fun r w1 ad1 => none = r ∧ zent (fIter fKeep Z 80) sb mcn cp G.2.2.2.1 Y th o od ad = w1 ∧ ad = ad1) (zNoX) := by
  refine z_body hl (by decide +kernel) (Nat.le_of_ble_eq_true rfl) (fun X O => ?_)
  have L : ∀ (n : Nat) (i : Nat), i ≤ 80 → 80 < i + n → zV G X 5 0 0 10 [(0, .ref (ad 1)), (1, .ref (ad 2)), (2, .int (nI 80)), (3, .int (nI i))] [] (zent (fIter fKeep Z i) sb mcn cp G.2.2.2.1 Y th o od ad) ad := by
    intro n
    induction n with
    | zero => intro i h1 h2; omega
    | succ n ih =>
      intro i h1 h2
      refine z_iload_n O dX3_keepTickAhead_10 rfl ?_
      refine z_iload_n O dX3_keepTickAhead_11 rfl ?_
      refine z_icmp_ge O dX3_keepTickAhead_12 (tgt := 31) (by decide) (fun h => ?_) (fun h => ?_)
      · have hi : i = 80 := by have := z_ge_ge (by omega) (by decide) h; omega
        subst hi
        exact z_vret O dX3_keepTickAhead_31 (Nat.le_of_ble_eq_true rfl) (Nat.le_of_ble_eq_true rfl) ⟨rfl, rfl, rfl⟩
      · have hi : i < 80 := z_ge_lt (by omega) (by decide) h
        refine z_aload_n O dX3_keepTickAhead_15 rfl ?_
        refine z_iload_n O dX3_keepTickAhead_16 rfl ?_
        refine z_aald O (Or.inl rfl) dX3_keepTickAhead_17 (zg_arr) i rfl hi (by decide) ?_
        refine z_astore O dX3_keepTickAhead_18 (by decide) ?_
        refine z_aload O dX3_keepTickAhead_20 rfl ?_
        refine z_callV O (c_X4_keepTickAhead hl hi (by rw [fKeep_7]; exact hb7 i hi)) zI zm0_58 zm0_59 zm0_60 zm0_61 zm0_51 ⟨rfl, by decide +kernel, by decide +kernel, (show _ = some 0 by decide +kernel)⟩ rfl (zg_seat hi) ⟨Nat.le_of_ble_eq_true rfl, Nat.le_of_ble_eq_true rfl⟩ ⟨Nat.le_of_ble_eq_true rfl, Nat.le_of_ble_eq_true rfl⟩ dX3_keepTickAhead_22 rfl (Nat.le_of_ble_eq_true rfl) (fun _ _ _ h => h.elim) (fun r w1 ad1 hp => ?_)
        obtain ⟨rfl, rfl, rfl⟩ := hp
        refine z_iincN O dX3_keepTickAhead_25 (a := i) rfl (by decide) ?_
        refine z_goto O dX3_keepTickAhead_28 (tgt := 10) (by decide) ?_
        exact zV.loc (ih (i + 1) (by omega) (by omega)) ⟨rfl, rfl, rfl, rfl, trivial⟩
  refine z_aload_n O dX3_keepTickAhead_0 rfl ?_
  refine z_get O (fk := 0) (fun x h => zI x (zu_RX3 x h)) rfl (by decide) (zI _ zm0_57) dX3_keepTickAhead_1 (zg_house) rfl ?_
  refine z_astore_n O dX3_keepTickAhead_4 (by decide) ?_
  refine z_aload_n O dX3_keepTickAhead_5 rfl ?_
  refine z_alen O (t := 5) (by decide) dX3_keepTickAhead_6 (zg_arr) ?_
  refine z_istore_n O dX3_keepTickAhead_7 (by decide) ?_
  refine z_iconst O dX3_keepTickAhead_8 (v := 0) (by decide) ?_
  refine z_istore_n O dX3_keepTickAhead_9 (by decide) ?_
  exact zV.loc (L 81 0 (by omega) (by omega)) ⟨rfl, rfl, rfl, rfl, trivial⟩

set_option maxRecDepth 100000 in
set_option maxHeartbeats 4000000 in
theorem c_X3_isInOrder {G : zG} {l : Launch} (hl : l.stackTraces = false) {Z : zM} {sb : Nat → Option Nat} {mcn : Nat → Int32} {cp : Nat → Nat} {Y : zM} {th : Int32} {o : Nat → Int64} {od : Nat → UInt64} {ad : Nat → Nat} (hwn : ∀ k, k < 80 → zh (Z 2 k) = none → ¬ Z 0 k = 104) (hjj : ∀ k, k < 80 → ∀ j, zh (Z 2 k) = some j → j < zN Z 0 ∧ j < 20 ∧ Z 0 k = 104 ∧ sb j = some k) (hn0 : ∀ k, k < 80 → ¬ Z 3 k < 0) (hn9 : ∀ k, k < 80 → ¬ 9 < Z 3 k) : zCt G l yX3_isInOrder (zws yX3_isInOrder cX3_isInOrder 5 (some .boolean)) ({ frames := 1, cells := 0, slots := 0, locals := 21 }) [.ref (ad 1)] (zent Z sb mcn cp G.2.2.2.1 Y th o od ad) ad (fun r w1 ad1 => some (.int 1) = r ∧ zent Z sb mcn cp G.2.2.2.1 Y th o od ad = w1 ∧ ad = ad1) (zNoX) := by
  refine z_body hl (by decide +kernel) (Nat.le_of_ble_eq_true rfl) (fun X O => ?_)
  have L : ∀ (n : Nat) (i : Nat), i ≤ 80 → 80 < i + n → zV G X 5 0 0 10 [(0, .ref (ad 1)), (1, .ref (ad 2)), (2, .int (nI 80)), (3, .int (nI i))] [] (zent Z sb mcn cp G.2.2.2.1 Y th o od ad) ad := by
    intro n
    induction n with
    | zero => intro i h1 h2; omega
    | succ n ih =>
      intro i h1 h2
      refine z_iload_n O dX3_isInOrder_10 rfl ?_
      refine z_iload_n O dX3_isInOrder_11 rfl ?_
      refine z_icmp_ge O dX3_isInOrder_12 (tgt := 36) (by decide) (fun h => ?_) (fun h => ?_)
      · have hi : i = 80 := by have := z_ge_ge (by omega) (by decide) h; omega
        subst hi
        refine z_iconst O dX3_isInOrder_36 (v := 1) (by decide) ?_
        exact z_zret O rfl rfl dX3_isInOrder_37 (Nat.le_of_ble_eq_true rfl) (Nat.le_of_ble_eq_true rfl) ⟨rfl, rfl, rfl⟩
      · have hi : i < 80 := z_ge_lt (by omega) (by decide) h
        refine z_aload_n O dX3_isInOrder_15 rfl ?_
        refine z_iload_n O dX3_isInOrder_16 rfl ?_
        refine z_aald O (Or.inl rfl) dX3_isInOrder_17 (zg_arr) i rfl hi (by decide) ?_
        refine z_astore O dX3_isInOrder_18 (by decide) ?_
        refine z_aload O dX3_isInOrder_20 rfl ?_
        refine z_callV O (c_X4_isInOrder hl hi (hwn i hi) (hjj i hi) (hn0 i hi) (hn9 i hi)) zI zm3_4 zm3_5 zm3_6 zm0_61 zm3_2 ⟨rfl, by decide +kernel, by decide +kernel, (show _ = some 0 by decide +kernel)⟩ rfl (zg_seat hi) ⟨Nat.le_of_ble_eq_true rfl, Nat.le_of_ble_eq_true rfl⟩ ⟨Nat.le_of_ble_eq_true rfl, Nat.le_of_ble_eq_true rfl⟩ dX3_isInOrder_22 rfl (Nat.le_of_ble_eq_true rfl) (fun _ _ _ h => h.elim) (fun r w1 ad1 hp => ?_)
        obtain ⟨rfl, rfl, rfl⟩ := hp
        refine z_if_ne O dX3_isInOrder_25 (tgt := 30) (by decide) (fun _ => ?_) (fun g => absurd g (by decide))
        refine z_iincN O dX3_isInOrder_30 (a := i) rfl (by decide) ?_
        refine z_goto O dX3_isInOrder_33 (tgt := 10) (by decide) ?_
        exact zV.loc (ih (i + 1) (by omega) (by omega)) ⟨rfl, rfl, rfl, rfl, trivial⟩
  refine z_aload_n O dX3_isInOrder_0 rfl ?_
  refine z_get O (fk := 0) (fun x h => zI x (zu_RX3 x h)) rfl (by decide) (zI _ zm0_57) dX3_isInOrder_1 (zg_house) rfl ?_
  refine z_astore_n O dX3_isInOrder_4 (by decide) ?_
  refine z_aload_n O dX3_isInOrder_5 rfl ?_
  refine z_alen O (t := 5) (by decide) dX3_isInOrder_6 (zg_arr) ?_
  refine z_istore_n O dX3_isInOrder_7 (by decide) ?_
  refine z_iconst O dX3_isInOrder_8 (v := 0) (by decide) ?_
  refine z_istore_n O dX3_isInOrder_9 (by decide) ?_
  exact zV.loc (L 81 0 (by omega) (by omega)) ⟨rfl, rfl, rfl, rfl, trivial⟩

set_option maxRecDepth 100000 in
set_option maxHeartbeats 4000000 in
theorem c_X3_build {G : zG} {l : Launch} (hl : l.stackTraces = false) {Z : zM} {sb : Nat → Option Nat} {mcn : Nat → Int32} {cp : Nat → Nat} {Y : zM} {th : Int32} {o : Nat → Int64} {od : Nat → UInt64} {ad : Nat → Nat} (hs : zSeats Z) {x y : Int32} : zCt G l yX3_build (zws yX3_build cX3_build 7 none) ({ frames := 2, cells := 0, slots := 0, locals := 42 }) [.ref (ad 1), .int x, .int y] (zent Z sb mcn cp G.2.2.2.1 Y th o od ad) ad (fun r w1 ad1 => none = r ∧ zent (zu (zu (fBuild Z sb 80).1 23 0 x) 24 0 y) (fBuild Z sb 80).2 mcn cp G.2.2.2.1 Y th o od ad = w1 ∧ ad = ad1) (zNoX) := by
  refine z_body hl (by decide +kernel) (Nat.le_of_ble_eq_true rfl) (fun X O => ?_)
  have L : ∀ (n : Nat) (i : Nat), i ≤ 80 → 80 < i + n → zV G X 7 0 0 12 [(0, .ref (ad 1)), (1, .int x), (2, .int y), (3, .ref (ad 2)), (4, .int (nI 80)), (5, .int (nI i))] [] (zent (fBuild Z sb i).1 (fBuild Z sb i).2 mcn cp G.2.2.2.1 Y th o od ad) ad := by
    intro n
    induction n with
    | zero => intro i h1 h2; omega
    | succ n ih =>
      intro i h1 h2
      refine z_iload O dX3_build_12 rfl ?_
      refine z_iload O dX3_build_14 rfl ?_
      refine z_icmp_ge O dX3_build_16 (tgt := 39) (by decide) (fun h => ?_) (fun h => ?_)
      · have hi : i = 80 := by have := z_ge_ge (by omega) (by decide) h; omega
        subst hi
        refine z_aload_n O dX3_build_39 rfl ?_
        refine z_iload_n O dX3_build_40 rfl ?_
        refine z_put O (fk := 1) (fun x h => zI x (zu_RX3 x h)) tyX3 tyX3_ok nmX3 rfl (by decide) (zI _ zm0_63) rfl dX3_build_41 rfl rfl (zg_house) (Nat.le_of_ble_eq_true rfl) (zp_house (p := 1) (Or.inl rfl) rfl) ?_
        refine z_aload_n O dX3_build_44 rfl ?_
        refine z_iload_n O dX3_build_45 rfl ?_
        refine z_put O (fk := 2) (fun x h => zI x (zu_RX3 x h)) tyX3 tyX3_ok nmX3 rfl (by decide) (zI _ zm0_64) rfl dX3_build_46 rfl rfl (zg_house) (Nat.le_of_ble_eq_true rfl) (zp_house (p := 2) (Or.inr rfl) rfl) ?_
        exact z_vret O dX3_build_49 (Nat.le_of_ble_eq_true rfl) (Nat.le_of_ble_eq_true rfl) ⟨rfl, rfl, rfl⟩
      · have hi : i < 80 := z_ge_lt (by omega) (by decide) h
        refine z_aload_n O dX3_build_19 rfl ?_
        refine z_iload O dX3_build_20 rfl ?_
        refine z_aald O (Or.inl rfl) dX3_build_22 (zg_arr) i rfl hi (by decide) ?_
        refine z_astore O dX3_build_23 (by decide) ?_
        refine z_aload O dX3_build_25 rfl ?_
        refine z_bipush O dX3_build_27 (v := 46) (by decide) ?_
        refine z_callV O (c_X4_take hl hi zChr_46 (zSeats_build hs i i hi).1 (zSeats_build hs i i hi).2.1 (zSeats_build hs i i hi).2.2) zI zm2_64 zm2_65 zm2_66 zm0_61 zm2_58 ⟨rfl, by decide +kernel, by decide +kernel, (show _ = some 1 by decide +kernel)⟩ rfl (zg_seat hi) ⟨Nat.le_of_ble_eq_true rfl, Nat.le_of_ble_eq_true rfl⟩ ⟨Nat.le_of_ble_eq_true rfl, Nat.le_of_ble_eq_true rfl⟩ dX3_build_29 rfl (Nat.le_of_ble_eq_true rfl) (fun _ _ _ h => h.elim) (fun r w1 ad1 hp => ?_)
        obtain ⟨rfl, rfl, rfl⟩ := hp
        refine z_pop O dX3_build_32 rfl ?_
        refine z_iincN O dX3_build_33 (a := i) rfl (by decide) ?_
        refine z_goto O dX3_build_36 (tgt := 12) (by decide) ?_
        exact zV.loc (ih (i + 1) (by omega) (by omega)) ⟨rfl, rfl, rfl, rfl, rfl, rfl, trivial⟩
  refine z_aload_n O dX3_build_0 rfl ?_
  refine z_get O (fk := 0) (fun x h => zI x (zu_RX3 x h)) rfl (by decide) (zI _ zm0_57) dX3_build_1 (zg_house) rfl ?_
  refine z_astore_n O dX3_build_4 (by decide) ?_
  refine z_aload_n O dX3_build_5 rfl ?_
  refine z_alen O (t := 5) (by decide) dX3_build_6 (zg_arr) ?_
  refine z_istore O dX3_build_7 (by decide) ?_
  refine z_iconst O dX3_build_9 (v := 0) (by decide) ?_
  refine z_istore O dX3_build_10 (by decide) ?_
  exact zV.loc (L 81 0 (by omega) (by omega)) ⟨rfl, rfl, rfl, rfl, rfl, rfl, trivial⟩

set_option maxRecDepth 100000 in
set_option maxHeartbeats 4000000 in
theorem c_X3_around {G : zG} {l : Launch} (hl : l.stackTraces = false) {Z : zM} {sb : Nat → Option Nat} {mcn : Nat → Int32} {cp : Nat → Nat} {Y : zM} {th : Int32} {o : Nat → Int64} {od : Nat → UInt64} {ad : Nat → Nat} (hh : zHouse Z) {a b : Nat} (ha : a < 10) (hb : b < 10) : zCt G l yX3_around (zws yX3_around cX3_around 7 (some .int)) ({ frames := 1, cells := 0, slots := 0, locals := 23 }) [.ref (ad 1), .int (nI a), .int (nI b)] (zent Z sb mcn cp G.2.2.2.1 Y th o od ad) ad (fun r w1 ad1 => some (.int (fAround Z a b)) = r ∧ zent Z sb mcn cp G.2.2.2.1 Y th o od ad = w1 ∧ ad = ad1) (zNoX) := by
  refine z_body hl (by decide +kernel) (Nat.le_of_ble_eq_true rfl) (fun X O => ?_)
  have L : ∀ (n : Nat) (i : Nat) (acc x : Int32), i ≤ 3 → 3 < i + n → x = rI a i → acc = fRows Z a b i → zV G X 7 0 0 7 [(0, .ref (ad 1)), (1, .int (nI a)), (2, .int (nI b)), (3, .int acc), (4, .int x)] [] (zent Z sb mcn cp G.2.2.2.1 Y th o od ad) ad := by
    intro n
    induction n with
    | zero => intro i acc x h1 h2 hx hacc; omega
    | succ n ih =>
      intro i acc x h1 h2 hx hacc
      refine z_iload O dX3_around_7 rfl ?_
      refine z_iload_n O dX3_around_9 rfl ?_
      refine z_iconst O dX3_around_10 (v := 1) (by decide) ?_
      refine z_iadd O dX3_around_11 ?_
      refine z_icmp_gt O dX3_around_12 (tgt := 79) (by decide) (fun h => ?_) (fun h => ?_)
      · rw [hx] at h
        have hi : i = 3 := (rI_lt a ha i (by omega)).mp h
        subst hi
        refine z_iload_n O dX3_around_79 rfl ?_
        exact z_iret O dX3_around_80 (Nat.le_of_ble_eq_true rfl) (Nat.le_of_ble_eq_true rfl) ⟨by rw [hacc]; rfl, rfl, rfl⟩
      · have hi : i < 3 := by
          rcases Nat.lt_or_ge i 3 with q | q
          · exact q
          · exact absurd ((rI_lt a ha i (by omega)).mpr (by omega)) (by rw [← hx]; exact h)
        have ihO := ih
        have L2 : ∀ (n : Nat) (j : Nat) (acc2 y : Int32), j ≤ 3 → 3 < j + n → y = rI b j → acc2 = fRow Z a b i acc j → zV G X 7 0 0 20 [(0, .ref (ad 1)), (1, .int (nI a)), (2, .int (nI b)), (3, .int acc2), (4, .int x), (5, .int y)] [] (zent Z sb mcn cp G.2.2.2.1 Y th o od ad) ad := by
          intro n
          induction n with
          | zero => intro j acc2 y h3 h4 hy hacc2; omega
          | succ n ih =>
            intro j acc2 y h3 h4 hy hacc2
            refine z_iload O dX3_around_20 rfl ?_
            refine z_iload_n O dX3_around_22 rfl ?_
            refine z_iconst O dX3_around_23 (v := 1) (by decide) ?_
            refine z_iadd O dX3_around_24 ?_
            refine z_icmp_gt O dX3_around_25 (tgt := 73) (by decide) (fun h9 => ?_) (fun h9 => ?_)
            · rw [hy] at h9
              have hj : j = 3 := (rI_lt b hb j (by omega)).mp h9
              subst hj
              refine z_iinc1 O dX3_around_73 rfl (by decide) ?_
              refine z_goto O dX3_around_76 (tgt := 7) (by decide) ?_
              exact zV.loc (ihO (i + 1) _ _ (by omega) (by omega) (by rw [hx, rI_s]) (by rw [hacc2, hacc]; rfl)) ⟨rfl, rfl, rfl, rfl, rfl, trivial⟩
            · have hj : j < 3 := by
                rcases Nat.lt_or_ge j 3 with q | q
                · exact q
                · exact absurd ((rI_lt b hb j (by omega)).mpr (by omega)) (by rw [← hy]; exact h9)
              refine z_iload O dX3_around_28 rfl ?_
              refine z_iload_n O dX3_around_30 rfl ?_
              refine z_icmp_ne O dX3_around_31 (tgt := 44) (by decide) (fun g1 => ?_) (fun g1 => ?_)
              · refine z_aload_n O dX3_around_44 rfl ?_
                refine z_iload O dX3_around_45 rfl ?_
                refine z_iload O dX3_around_47 rfl ?_
                refine z_callV O (c_X3_seatOrNull hl hh (x := x) (y := y)) zI zm0_67 zm0_68 zm0_69 zm1_0 zm0_62 ⟨rfl, by decide +kernel, by decide +kernel, (show _ = some 2 by decide +kernel)⟩ rfl (zg_house) ⟨Nat.le_of_ble_eq_true rfl, Nat.le_of_ble_eq_true rfl⟩ ⟨Nat.le_of_ble_eq_true rfl, Nat.le_of_ble_eq_true rfl⟩ dX3_around_49 rfl (Nat.le_of_ble_eq_true rfl) (fun _ _ _ h => h.elim) (fun r w1 ad1 hp => ?_)
                obtain ⟨rfl, rfl, rfl⟩ := hp
                cases hq : fPl Z x y with
                | none =>
                  refine z_astoreN O dX3_around_52 (by decide) ?_
                  refine z_aloadN O dX3_around_54 rfl ?_
                  refine z_ifnullN O dX3_around_56 (tgt := 67) (by decide) ?_
                  refine z_iinc1 O dX3_around_67 rfl (by decide) ?_
                  refine z_goto O dX3_around_70 (tgt := 20) (by decide) ?_
                  exact zV.loc (ih (j + 1) _ _ (by omega) (by omega) (by rw [hy, rI_s]) (by rw [hacc2]; show _ = fCell Z a b i j _; unfold fCell; rw [if_neg (fun q => g1 (by rw [hx]; exact (rI_eq a ha i (by omega)).mpr q.1)), ← hx, ← hy, hq])) ⟨rfl, rfl, rfl, rfl, rfl, rfl, trivial⟩
                | some k =>
                  have hk : k < 80 := fPl_lt hh hq
                  refine z_astore O dX3_around_52 (by decide) ?_
                  refine z_aload O dX3_around_54 rfl ?_
                  refine z_ifnull O dX3_around_56 ?_
                  refine z_iload_n O dX3_around_59 rfl ?_
                  refine z_aload O dX3_around_60 rfl ?_
                  refine z_callV O (c_X4_heardByNeighbours hl hk) zI zm1_1 zm1_2 zm1_3 zm0_61 zm0_65 ⟨rfl, by decide +kernel, by decide +kernel, (show _ = some 0 by decide +kernel)⟩ rfl (zg_seat hk) ⟨Nat.le_of_ble_eq_true rfl, Nat.le_of_ble_eq_true rfl⟩ ⟨Nat.le_of_ble_eq_true rfl, Nat.le_of_ble_eq_true rfl⟩ dX3_around_62 rfl (Nat.le_of_ble_eq_true rfl) (fun _ _ _ h => h.elim) (fun r w1 ad1 hp => ?_)
                  obtain ⟨rfl, rfl, rfl⟩ := hp
                  refine z_iadd O dX3_around_65 ?_
                  refine z_istore_n O dX3_around_66 (by decide) ?_
                  refine z_iinc1 O dX3_around_67 rfl (by decide) ?_
                  refine z_goto O dX3_around_70 (tgt := 20) (by decide) ?_
                  exact zV.loc (ih (j + 1) _ _ (by omega) (by omega) (by rw [hy, rI_s]) (by rw [hacc2]; show _ = fCell Z a b i j _; unfold fCell; rw [if_neg (fun q => g1 (by rw [hx]; exact (rI_eq a ha i (by omega)).mpr q.1)), ← hx, ← hy, hq])) ⟨rfl, rfl, rfl, rfl, rfl, rfl, trivial⟩
              · refine z_iload O dX3_around_34 rfl ?_
                refine z_iload_n O dX3_around_36 rfl ?_
                refine z_icmp_ne O dX3_around_37 (tgt := 44) (by decide) (fun g2 => ?_) (fun g2 => ?_)
                · refine z_aload_n O dX3_around_44 rfl ?_
                  refine z_iload O dX3_around_45 rfl ?_
                  refine z_iload O dX3_around_47 rfl ?_
                  refine z_callV O (c_X3_seatOrNull hl hh (x := x) (y := y)) zI zm0_67 zm0_68 zm0_69 zm1_0 zm0_62 ⟨rfl, by decide +kernel, by decide +kernel, (show _ = some 2 by decide +kernel)⟩ rfl (zg_house) ⟨Nat.le_of_ble_eq_true rfl, Nat.le_of_ble_eq_true rfl⟩ ⟨Nat.le_of_ble_eq_true rfl, Nat.le_of_ble_eq_true rfl⟩ dX3_around_49 rfl (Nat.le_of_ble_eq_true rfl) (fun _ _ _ h => h.elim) (fun r w1 ad1 hp => ?_)
                  obtain ⟨rfl, rfl, rfl⟩ := hp
                  cases hq : fPl Z x y with
                  | none =>
                    refine z_astoreN O dX3_around_52 (by decide) ?_
                    refine z_aloadN O dX3_around_54 rfl ?_
                    refine z_ifnullN O dX3_around_56 (tgt := 67) (by decide) ?_
                    refine z_iinc1 O dX3_around_67 rfl (by decide) ?_
                    refine z_goto O dX3_around_70 (tgt := 20) (by decide) ?_
                    exact zV.loc (ih (j + 1) _ _ (by omega) (by omega) (by rw [hy, rI_s]) (by rw [hacc2]; show _ = fCell Z a b i j _; unfold fCell; rw [if_neg (fun q => g2 (by rw [hy]; exact (rI_eq b hb j (by omega)).mpr q.2)), ← hx, ← hy, hq])) ⟨rfl, rfl, rfl, rfl, rfl, rfl, trivial⟩
                  | some k =>
                    have hk : k < 80 := fPl_lt hh hq
                    refine z_astore O dX3_around_52 (by decide) ?_
                    refine z_aload O dX3_around_54 rfl ?_
                    refine z_ifnull O dX3_around_56 ?_
                    refine z_iload_n O dX3_around_59 rfl ?_
                    refine z_aload O dX3_around_60 rfl ?_
                    refine z_callV O (c_X4_heardByNeighbours hl hk) zI zm1_1 zm1_2 zm1_3 zm0_61 zm0_65 ⟨rfl, by decide +kernel, by decide +kernel, (show _ = some 0 by decide +kernel)⟩ rfl (zg_seat hk) ⟨Nat.le_of_ble_eq_true rfl, Nat.le_of_ble_eq_true rfl⟩ ⟨Nat.le_of_ble_eq_true rfl, Nat.le_of_ble_eq_true rfl⟩ dX3_around_62 rfl (Nat.le_of_ble_eq_true rfl) (fun _ _ _ h => h.elim) (fun r w1 ad1 hp => ?_)
                    obtain ⟨rfl, rfl, rfl⟩ := hp
                    refine z_iadd O dX3_around_65 ?_
                    refine z_istore_n O dX3_around_66 (by decide) ?_
                    refine z_iinc1 O dX3_around_67 rfl (by decide) ?_
                    refine z_goto O dX3_around_70 (tgt := 20) (by decide) ?_
                    exact zV.loc (ih (j + 1) _ _ (by omega) (by omega) (by rw [hy, rI_s]) (by rw [hacc2]; show _ = fCell Z a b i j _; unfold fCell; rw [if_neg (fun q => g2 (by rw [hy]; exact (rI_eq b hb j (by omega)).mpr q.2)), ← hx, ← hy, hq])) ⟨rfl, rfl, rfl, rfl, rfl, rfl, trivial⟩
                · refine z_null O dX3_around_40 ?_
                  refine z_goto O dX3_around_41 (tgt := 52) (by decide) ?_
                  refine z_astoreN O dX3_around_52 (by decide) ?_
                  refine z_aloadN O dX3_around_54 rfl ?_
                  refine z_ifnullN O dX3_around_56 (tgt := 67) (by decide) ?_
                  refine z_iinc1 O dX3_around_67 rfl (by decide) ?_
                  refine z_goto O dX3_around_70 (tgt := 20) (by decide) ?_
                  exact zV.loc (ih (j + 1) _ _ (by omega) (by omega) (by rw [hy, rI_s]) (by rw [hacc2]; show _ = fCell Z a b i j _; unfold fCell; rw [if_pos ⟨(rI_eq a ha i (by omega)).mp (by rw [← hx]; exact g1), (rI_eq b hb j (by omega)).mp (by rw [← hy]; exact g2)⟩])) ⟨rfl, rfl, rfl, rfl, rfl, rfl, trivial⟩
        refine z_iload_n O dX3_around_15 rfl ?_
        refine z_iconst O dX3_around_16 (v := 1) (by decide) ?_
        refine z_isub O dX3_around_17 ?_
        refine z_istore O dX3_around_18 (by decide) ?_
        exact zV.loc (L2 4 0 acc _ (by omega) (by omega) (rI_0 b) rfl) ⟨rfl, rfl, rfl, rfl, rfl, rfl, trivial⟩
  refine z_iconst O dX3_around_0 (v := 0) (by decide) ?_
  refine z_istore_n O dX3_around_1 (by decide) ?_
  refine z_iload_n O dX3_around_2 rfl ?_
  refine z_iconst O dX3_around_3 (v := 1) (by decide) ?_
  refine z_isub O dX3_around_4 ?_
  refine z_istore O dX3_around_5 (by decide) ?_
  exact zV.loc (L 4 0 0 _ (by omega) (by omega) (rI_0 a) rfl) ⟨rfl, rfl, rfl, rfl, rfl, trivial⟩
end
section
def zLs (m : Int32) (v : Value) (n : Int32) : zE := .inr (2, [.int m, v, .int n])
def zAr (n : Nat) (f : Nat → Option Nat) : zE := .inl (6, (n, .inr (.inr (.inr (.inr f)))))
def wU (w : zH) (i : Nat) (e : zE) : zH := fun j => if j = i then some e else w j
theorem wU_eq {w : zH} {i : Nat} {e : zE} : ∀ j, wU w i e j = if j = i then some e else w j := fun _ => rfl
theorem wU_s {w : zH} {i : Nat} {e : zE} : wU w i e i = some e := by simp [wU]
theorem wU_n {w : zH} {i j : Nat} {e : zE} (h : j ≠ i) : wU w i e j = w j := by simp [wU, h]
set_option maxRecDepth 100000 in
set_option maxHeartbeats 4000000 in
theorem c_Jx4a65c_size_8abf5 {G : zG} {l : Launch} (hl : l.stackTraces = false) {w : zH} {ad : Nat → Nat} {a : Nat} {m0 : Int32} {v : Value} {n : Int32} (hw : w a = some (zLs m0 v n)) : zCt G l yJx4a65c_size_8abf5 (zws yJx4a65c_size_8abf5 cJx4a65c_size_8abf5 1 (some .int)) ({ frames := 0, cells := 0, slots := 0, locals := 0 }) [.ref (ad a)] (w) ad (fun r w1 ad1 => some (.int n) = r ∧ w = w1 ∧ ad = ad1) (zNoX) := by
  refine z_body hl (by decide +kernel) (Nat.le_of_ble_eq_true rfl) (fun X O => ?_)
  refine z_aload_n O dJx4a65c_size_8abf5_0 rfl ?_
  refine z_get O (fk := 2) (fun x h => zI x (zu_RJx4a65c x h)) rfl (by decide) (zI _ zm0_45) dJx4a65c_size_8abf5_1 (hw) rfl ?_
  exact z_iret O dJx4a65c_size_8abf5_4 (Nat.le_of_ble_eq_true rfl) (Nat.le_of_ble_eq_true rfl) ⟨rfl, rfl, rfl⟩

set_option maxRecDepth 100000 in
set_option maxHeartbeats 4000000 in
theorem c_J3_checkIndex_8e157 {G : zG} {l : Launch} (hl : l.stackTraces = false) {w : zH} {ad : Nat → Nat} {x y : Int32} (h0 : ¬ x < 0) (h1 : x < y) : zCt G l yJ3_checkIndex_8e157 (zws yJ3_checkIndex_8e157 cJ3_checkIndex_8e157 3 (some .int)) ({ frames := 0, cells := 0, slots := 0, locals := 0 }) [.int x, .int y, .null] (w) ad (fun r w1 ad1 => some (.int x) = r ∧ w = w1 ∧ ad = ad1) (zNoX) := by
  refine z_body hl (by decide +kernel) (Nat.le_of_ble_eq_true rfl) (fun X O => ?_)
  refine z_iload_n O dJ3_checkIndex_8e157_0 rfl ?_
  refine z_if_lt O dJ3_checkIndex_8e157_1 (tgt := 9) (by decide) (fun h => ?_) (fun h => ?_)
  · exact absurd h h0
  · refine z_iload_n O dJ3_checkIndex_8e157_4 rfl ?_
    refine z_iload_n O dJ3_checkIndex_8e157_5 rfl ?_
    refine z_icmp_lt O dJ3_checkIndex_8e157_6 (tgt := 16) (by decide) (fun h => ?_) (fun h => ?_)
    · refine z_iload_n O dJ3_checkIndex_8e157_16 rfl ?_
      exact z_iret O dJ3_checkIndex_8e157_17 (Nat.le_of_ble_eq_true rfl) (Nat.le_of_ble_eq_true rfl) ⟨rfl, rfl, rfl⟩
    · exact absurd h1 h

set_option maxRecDepth 100000 in
set_option maxHeartbeats 4000000 in
theorem c_J15_checkIndex_7cf53 {G : zG} {l : Launch} (hl : l.stackTraces = false) {w : zH} {ad : Nat → Nat} {x y : Int32} (h0 : ¬ x < 0) (h1 : x < y) : zCt G l yJ15_checkIndex_7cf53 (zws yJ15_checkIndex_7cf53 cJ15_checkIndex_7cf53 2 (some .int)) ({ frames := 1, cells := 0, slots := 0, locals := 22 }) [.int x, .int y] (w) ad (fun r w1 ad1 => some (.int x) = r ∧ w = w1 ∧ ad = ad1) (zNoX) := by
  refine z_body hl (by decide +kernel) (Nat.le_of_ble_eq_true rfl) (fun X O => ?_)
  refine z_iload_n O dJ15_checkIndex_7cf53_0 rfl ?_
  refine z_iload_n O dJ15_checkIndex_7cf53_1 rfl ?_
  refine z_null O dJ15_checkIndex_7cf53_2 ?_
  refine z_callS O (c_J3_checkIndex_8e157 hl h0 h1) zI zm1_22 zm1_23 zm1_24 zm1_20 ⟨by decide +kernel, by decide +kernel, (show _ = some 3 by decide +kernel)⟩ ⟨Nat.le_of_ble_eq_true rfl, Nat.le_of_ble_eq_true rfl⟩ ⟨Nat.le_of_ble_eq_true rfl, Nat.le_of_ble_eq_true rfl⟩ dJ15_checkIndex_7cf53_3 rfl (Nat.le_of_ble_eq_true rfl) (fun _ _ _ h => h.elim) (fun r w1 ad1 hp => ?_)
  obtain ⟨rfl, rfl, rfl⟩ := hp
  exact z_iret O dJ15_checkIndex_7cf53_6 (Nat.le_of_ble_eq_true rfl) (Nat.le_of_ble_eq_true rfl) ⟨rfl, rfl, rfl⟩

set_option maxRecDepth 100000 in
set_option maxHeartbeats 4000000 in
theorem c_Jx4a65c_elementData_915e3 {G : zG} {l : Launch} (hl : l.stackTraces = false) {w : zH} {ad : Nat → Nat} {a b k n cp : Nat} {m0 : Int32} {f : Nat → Option Nat} (hw : w a = some (zLs m0 (.ref (ad b)) (nI n))) (hb : w b = some (zAr cp f)) (hk : k < n) (hn : n ≤ cp) (hcp : cp < 2 ^ 31) : zCt G l yJx4a65c_elementData_915e3 (zws yJx4a65c_elementData_915e3 cJx4a65c_elementData_915e3 2 (some (.object "java/lang/Object"))) ({ frames := 0, cells := 0, slots := 0, locals := 0 }) [.ref (ad a), .int (nI k)] (w) ad (fun r w1 ad1 => some (va_rf (f k)) = r ∧ w = w1 ∧ ad = ad1) (zNoX) := by
  refine z_body hl (by decide +kernel) (Nat.le_of_ble_eq_true rfl) (fun X O => ?_)
  refine z_aload_n O dJx4a65c_elementData_915e3_0 rfl ?_
  refine z_get O (fk := 1) (fun x h => zI x (zu_RJx4a65c x h)) rfl (by decide) (zI _ zm0_24) dJx4a65c_elementData_915e3_1 (hw) rfl ?_
  refine z_iload_n O dJx4a65c_elementData_915e3_4 rfl ?_
  refine z_aald O (Or.inr rfl) dJx4a65c_elementData_915e3_5 (hb) k rfl (by omega) hcp ?_
  exact z_aret O (r := _) rfl (by first | exact Or.inl ⟨_, rfl⟩ | exact Or.inr ⟨_, rfl⟩) dJx4a65c_elementData_915e3_6 (Nat.le_of_ble_eq_true rfl) (Nat.le_of_ble_eq_true rfl) ⟨rfl, rfl, rfl⟩

set_option maxRecDepth 100000 in
set_option maxHeartbeats 4000000 in
theorem c_Jx4a65c_get_915e3 {G : zG} {l : Launch} (hl : l.stackTraces = false) {w : zH} {ad : Nat → Nat} {a b k n cp : Nat} {m0 : Int32} {f : Nat → Option Nat} (hw : w a = some (zLs m0 (.ref (ad b)) (nI n))) (hb : w b = some (zAr cp f)) (hk : k < n) (hn : n ≤ cp) (hcp : cp < 2 ^ 31) : zCt G l yJx4a65c_get_915e3 (zws yJx4a65c_get_915e3 cJx4a65c_get_915e3 2 (some (.object "java/lang/Object"))) ({ frames := 2, cells := 0, slots := 0, locals := 43 }) [.ref (ad a), .int (nI k)] (w) ad (fun r w1 ad1 => some (va_rf (f k)) = r ∧ w = w1 ∧ ad = ad1) (zNoX) := by
  refine z_body hl (by decide +kernel) (Nat.le_of_ble_eq_true rfl) (fun X O => ?_)
  refine z_iload_n O dJx4a65c_get_915e3_0 rfl ?_
  refine z_aload_n O dJx4a65c_get_915e3_1 rfl ?_
  refine z_get O (fk := 2) (fun x h => zI x (zu_RJx4a65c x h)) rfl (by decide) (zI _ zm0_45) dJx4a65c_get_915e3_2 (hw) rfl ?_
  refine z_callS O (c_J15_checkIndex_7cf53 hl (x := nI k) (y := nI n) (nI_pos (by omega)) (nI_lt hk (by omega))) zI zm1_27 zm1_28 zm1_29 zm1_21 ⟨by decide +kernel, by decide +kernel, (show _ = some 2 by decide +kernel)⟩ ⟨Nat.le_of_ble_eq_true rfl, Nat.le_of_ble_eq_true rfl⟩ ⟨Nat.le_of_ble_eq_true rfl, Nat.le_of_ble_eq_true rfl⟩ dJx4a65c_get_915e3_5 rfl (Nat.le_of_ble_eq_true rfl) (fun _ _ _ h => h.elim) (fun r w1 ad1 hp => ?_)
  obtain ⟨rfl, rfl, rfl⟩ := hp
  refine z_pop O dJx4a65c_get_915e3_8 rfl ?_
  refine z_aload_n O dJx4a65c_get_915e3_9 rfl ?_
  refine z_iload_n O dJx4a65c_get_915e3_10 rfl ?_
  refine z_callV O (c_Jx4a65c_elementData_915e3 hl hw hb hk hn hcp) zI zm1_30 zm1_31 zm1_32 zm0_31 zm1_25 ⟨rfl, by decide +kernel, by decide +kernel, (show _ = some 1 by decide +kernel)⟩ rfl (hw) ⟨Nat.le_of_ble_eq_true rfl, Nat.le_of_ble_eq_true rfl⟩ ⟨Nat.le_of_ble_eq_true rfl, Nat.le_of_ble_eq_true rfl⟩ dJx4a65c_get_915e3_11 rfl (Nat.le_of_ble_eq_true rfl) (fun _ _ _ h => h.elim) (fun r w1 ad1 hp => ?_)
  obtain ⟨rfl, rfl, rfl⟩ := hp
  exact z_aret O (r := _) rfl (by first | exact Or.inl ⟨_, rfl⟩ | exact Or.inr ⟨_, rfl⟩) dJx4a65c_get_915e3_14 (Nat.le_of_ble_eq_true rfl) (Nat.le_of_ble_eq_true rfl) ⟨rfl, rfl, rfl⟩
end
section
theorem wU_id {w : zH} {i : Nat} {e : zE} (h : w i = some e) : wU w i e = w := by
  funext j
  by_cases q : j = i
  · rw [q, wU_s, h]
  · rw [wU_n q]
theorem wU_wU {w : zH} {i : Nat} {e e' : zE} : wU (wU w i e) i e' = wU w i e' := by
  funext j
  by_cases q : j = i
  · rw [q, wU_s, wU_s]
  · rw [wU_n q, wU_n q, wU_n q]
theorem wU_comm {w : zH} {i j : Nat} {e e' : zE} (h : i ≠ j) : wU (wU w i e) j e' = wU (wU w j e') i e := by
  funext k
  by_cases q : k = j
  · subst q; rw [wU_s, wU_n (Ne.symm h), wU_s]
  · rw [wU_n q]
    by_cases p : k = i
    · subst p; rw [wU_s, wU_s]
    · rw [wU_n p, wU_n p, wU_n q]
set_option maxRecDepth 100000 in
set_option maxHeartbeats 4000000 in
theorem c_add3_room {G : zG} {l : Launch} (hl : l.stackTraces = false) {w : zH} {ad : Nat → Nat} {C : String} {T : u_T} {N ci : Nat} (hC : C ∈ zObs) (hc : vwCl[ci]? = some (C, T, N)) {a b e n cp : Nat} {m0 : Int32} {f : Nat → Option Nat} {fs : List Value} (hab : a ≠ b) (hw : w a = some (zLs m0 (.ref (ad b)) (nI n))) (hb : w b = some (zAr cp f)) (he : w e = some (.inr (ci, fs))) (hn : n < cp) (hcp : cp < 2 ^ 31) : zCt G l yJx4a65c_add_72be8 (zws yJx4a65c_add_72be8 cJx4a65c_add_72be8 4 none) ({ frames := 0, cells := 0, slots := 0, locals := 0 }) [.ref (ad a), .ref (ad e), .ref (ad b), .int (nI n)] (w) ad (fun r w1 ad1 => none = r ∧ wU (wU w b (zAr cp (va_up f n (some (ad e))))) a (zLs m0 (.ref (ad b)) (nI n + 1)) = w1 ∧ ad = ad1) (zNoX) := by
  refine z_body hl (by decide +kernel) (Nat.le_of_ble_eq_true rfl) (fun X O => ?_)
  refine z_iload_n O dJx4a65c_add_72be8_0 rfl ?_
  refine z_aload_n O dJx4a65c_add_72be8_1 rfl ?_
  refine z_alen O (t := 6) (by decide) dJx4a65c_add_72be8_2 (hb) ?_
  refine z_icmp_ne O dJx4a65c_add_72be8_3 (tgt := 11) (by decide) (fun h => ?_) (fun h => ?_)
  · refine z_aload_n O dJx4a65c_add_72be8_11 rfl ?_
    refine z_iload_n O dJx4a65c_add_72be8_12 rfl ?_
    refine z_aload_n O dJx4a65c_add_72be8_13 rfl ?_
    refine z_aast O hC hc dJx4a65c_add_72be8_14 hb he n rfl hn hcp wU_eq ?_
    refine z_aload_n O dJx4a65c_add_72be8_15 rfl ?_
    refine z_iload_n O dJx4a65c_add_72be8_16 rfl ?_
    refine z_iconst O dJx4a65c_add_72be8_17 (v := 1) (by decide) ?_
    refine z_iadd O dJx4a65c_add_72be8_18 ?_
    refine z_put O (fk := 2) (fun x h => zI x (zu_RJx4a65c x h)) tyJx4a65c tyJx4a65c_ok nmJx4a65c rfl (by decide) (zI _ zm0_45) rfl dJx4a65c_add_72be8_19 rfl rfl ((wU_n hab).trans hw) (Nat.le_of_ble_eq_true rfl) (wU_eq) ?_
    exact z_vret O dJx4a65c_add_72be8_22 (Nat.le_of_ble_eq_true rfl) (Nat.le_of_ble_eq_true rfl) ⟨rfl, rfl, rfl⟩
  · exact absurd ((nI_eq (by omega) hcp).mp h) (by show ¬ n = cp; omega)

set_option maxRecDepth 100000 in
set_option maxHeartbeats 4000000 in
theorem c_add_room {G : zG} {l : Launch} (hl : l.stackTraces = false) {w : zH} {ad : Nat → Nat} {C : String} {T : u_T} {N ci : Nat} (hC : C ∈ zObs) (hc : vwCl[ci]? = some (C, T, N)) {a b e n cp : Nat} {m0 : Int32} {f : Nat → Option Nat} {fs : List Value} (hab : a ≠ b) (hw : w a = some (zLs m0 (.ref (ad b)) (nI n))) (hb : w b = some (zAr cp f)) (he : w e = some (.inr (ci, fs))) (hn : n < cp) (hcp : cp < 2 ^ 31) (hea : e ≠ a) : zCt G l yJx4a65c_add_9ea2d (zws yJx4a65c_add_9ea2d cJx4a65c_add_9ea2d 2 (some .boolean)) ({ frames := 1, cells := 0, slots := 0, locals := 23 }) [.ref (ad a), .ref (ad e)] (w) ad (fun r w1 ad1 => some (.int 1) = r ∧ wU (wU (wU w a (zLs (m0 + 1) (.ref (ad b)) (nI n))) b (zAr cp (va_up f n (some (ad e))))) a (zLs (m0 + 1) (.ref (ad b)) (nI n + 1)) = w1 ∧ ad = ad1) (zNoX) := by
  refine z_body hl (by decide +kernel) (Nat.le_of_ble_eq_true rfl) (fun X O => ?_)
  refine z_aload_n O dJx4a65c_add_9ea2d_0 rfl ?_
  refine z_dup O dJx4a65c_add_9ea2d_1 rfl ?_
  refine z_getS O (fk := 0) (fun x h => zI x (zu_RJx4a65c x h)) rfl (by decide) (zI _ zm0_43) (zI _ zm0_44) dJx4a65c_add_9ea2d_2 (hw) rfl ?_
  refine z_iconst O dJx4a65c_add_9ea2d_5 (v := 1) (by decide) ?_
  refine z_iadd O dJx4a65c_add_9ea2d_6 ?_
  refine z_putS O (fk := 0) (fun x h => zI x (zu_RJx4a65c x h)) tyJx4a65c tyJx4a65c_ok nmJx4a65c rfl (by decide) (zI _ zm0_43) (zI _ zm0_44) rfl dJx4a65c_add_9ea2d_7 rfl rfl (hw) (Nat.le_of_ble_eq_true rfl) (wU_eq) ?_
  refine z_aload_n O dJx4a65c_add_9ea2d_10 rfl ?_
  refine z_aload_n O dJx4a65c_add_9ea2d_11 rfl ?_
  refine z_aload_n O dJx4a65c_add_9ea2d_12 rfl ?_
  refine z_get O (fk := 1) (fun x h => zI x (zu_RJx4a65c x h)) rfl (by decide) (zI _ zm0_24) dJx4a65c_add_9ea2d_13 (wU_s) rfl ?_
  refine z_aload_n O dJx4a65c_add_9ea2d_16 rfl ?_
  refine z_get O (fk := 2) (fun x h => zI x (zu_RJx4a65c x h)) rfl (by decide) (zI _ zm0_45) dJx4a65c_add_9ea2d_17 (wU_s) rfl ?_
  refine z_callV O (c_add3_room hl hC hc hab (m0 := m0 + 1) wU_s ((wU_n (Ne.symm hab)).trans hb) ((wU_n hea).trans he) hn hcp) zI zm5_23 zm5_24 zm5_25 zm0_31 zm5_22 ⟨rfl, by decide +kernel, by decide +kernel, (show _ = some 3 by decide +kernel)⟩ rfl (wU_s) ⟨Nat.le_of_ble_eq_true rfl, Nat.le_of_ble_eq_true rfl⟩ ⟨Nat.le_of_ble_eq_true rfl, Nat.le_of_ble_eq_true rfl⟩ dJx4a65c_add_9ea2d_20 rfl (Nat.le_of_ble_eq_true rfl) (fun _ _ _ h => h.elim) (fun r w1 ad1 hp => ?_)
  obtain ⟨rfl, rfl, rfl⟩ := hp
  refine z_iconst O dJx4a65c_add_9ea2d_23 (v := 1) (by decide) ?_
  exact z_zret O rfl rfl dJx4a65c_add_9ea2d_24 (Nat.le_of_ble_eq_true rfl) (Nat.le_of_ble_eq_true rfl) ⟨rfl, rfl, rfl⟩

set_option maxRecDepth 100000 in
set_option maxHeartbeats 4000000 in
theorem c_grow1_first {G : zG} {l : Launch} (hl : l.stackTraces = false) {w : zH} {ad : Nat → Nat} {a b : Nat} {m0 : Int32} (hab : a ≠ b) (hw : w a = some (zLs m0 (.ref G.2.2.2.1) 0)) (hbn : w b = none) : zCt G l yJx4a65c_grow_92f84 (zws yJx4a65c_grow_92f84 cJx4a65c_grow_92f84 4 (some (.array (.object "java/lang/Object")))) ({ frames := 1, cells := 1, slots := 10, locals := 21 }) [.ref (ad a), .int (0 + 1)] (w) ad (fun r w1 ad1 => ∃ q, some (.ref (va_up ad b q b)) = r ∧ wU (wU w b (zAr 10 (fun _ => none))) a (zLs m0 (.ref (va_up ad b q b)) 0) = w1 ∧ va_up ad b q = ad1) (zNoX) := by
  refine z_body hl (by decide +kernel) (Nat.le_of_ble_eq_true rfl) (fun X O => ?_)
  refine z_aload_n O dJx4a65c_grow_92f84_0 rfl ?_
  refine z_get O (fk := 1) (fun x h => zI x (zu_RJx4a65c x h)) rfl (by decide) (zI _ zm0_24) dJx4a65c_grow_92f84_1 (hw) rfl ?_
  refine z_alenE O dJx4a65c_grow_92f84_4 ?_
  refine z_istore_n O dJx4a65c_grow_92f84_5 (by decide) ?_
  refine z_iload_n O dJx4a65c_grow_92f84_6 rfl ?_
  refine z_if_gt O dJx4a65c_grow_92f84_7 (tgt := 20) (by decide) (fun h => absurd h (by decide)) (fun _ => ?_)
  refine z_aload_n O dJx4a65c_grow_92f84_10 rfl ?_
  refine z_get O (fk := 1) (fun x h => zI x (zu_RJx4a65c x h)) rfl (by decide) (zI _ zm0_24) dJx4a65c_grow_92f84_11 (hw) rfl ?_
  refine z_empty O (zI _ zm0_23) dJx4a65c_grow_92f84_14 ?_
  refine z_acmp_eq O (rx := some G.2.2.2.1) (ry := some G.2.2.2.1) dJx4a65c_grow_92f84_17 (tgt := 45) (by decide) (fun _ => ?_) (fun h => absurd rfl h)
  refine z_aload_n O dJx4a65c_grow_92f84_45 rfl ?_
  refine z_bipush O dJx4a65c_grow_92f84_46 (v := 10) (by decide) ?_
  refine z_iload_n O dJx4a65c_grow_92f84_48 rfl ?_
  refine z_mmax O zI zm5_8 zm1_14 zm1_11 zm1_15 dJx4a65c_grow_92f84_49 (Nat.le_of_ble_eq_true rfl) (Nat.le_of_ble_eq_true rfl) (Nat.le_of_ble_eq_true rfl) (Nat.le_of_ble_eq_true rfl) ?_
  refine z_anew O (w' := fun _ => wU w b (zAr 10 (fun _ => none))) b 6 (Or.inr ⟨rfl, rfl⟩) (zI _ zm5_9) (N := 10) (by decide) (by decide) (by decide) (Nat.le_of_ble_eq_true rfl) (Nat.le_of_ble_eq_true rfl) dJx4a65c_grow_92f84_52 hbn (fun _ => wU_eq) (fun q => ?_)
  rw [show ad a = va_up ad b q a from (zup_n hab).symm]
  refine z_dup_x1 O dJx4a65c_grow_92f84_55 rfl rfl ?_
  refine z_put O (fk := 1) (fun x h => zI x (zu_RJx4a65c x h)) tyJx4a65c tyJx4a65c_ok nmJx4a65c rfl (by decide) (zI _ zm0_24) rfl dJx4a65c_grow_92f84_56 rfl rfl ((wU_n hab).trans hw) (Nat.le_of_ble_eq_true rfl) (wU_eq) ?_
  exact z_aret O (r := (some (va_up ad b q b))) rfl (by first | exact Or.inl ⟨_, rfl⟩ | exact Or.inr ⟨_, rfl⟩) dJx4a65c_grow_92f84_59 (Nat.le_of_ble_eq_true rfl) (Nat.le_of_ble_eq_true rfl) ⟨q, rfl, rfl, rfl⟩

set_option maxRecDepth 100000 in
set_option maxHeartbeats 4000000 in
theorem c_grow0_first {G : zG} {l : Launch} (hl : l.stackTraces = false) {w : zH} {ad : Nat → Nat} {a b : Nat} {m0 : Int32} (hab : a ≠ b) (hw : w a = some (zLs m0 (.ref G.2.2.2.1) 0)) (hbn : w b = none) : zCt G l yJx4a65c_grow_d5877 (zws yJx4a65c_grow_d5877 cJx4a65c_grow_d5877 1 (some (.array (.object "java/lang/Object")))) ({ frames := 2, cells := 1, slots := 10, locals := 44 }) [.ref (ad a)] (w) ad (fun r w1 ad1 => ∃ q, some (.ref (va_up ad b q b)) = r ∧ wU (wU w b (zAr 10 (fun _ => none))) a (zLs m0 (.ref (va_up ad b q b)) 0) = w1 ∧ va_up ad b q = ad1) (zNoX) := by
  refine z_body hl (by decide +kernel) (Nat.le_of_ble_eq_true rfl) (fun X O => ?_)
  refine z_aload_n O dJx4a65c_grow_d5877_0 rfl ?_
  refine z_aload_n O dJx4a65c_grow_d5877_1 rfl ?_
  refine z_get O (fk := 2) (fun x h => zI x (zu_RJx4a65c x h)) rfl (by decide) (zI _ zm0_45) dJx4a65c_grow_d5877_2 (hw) rfl ?_
  refine z_iconst O dJx4a65c_grow_d5877_5 (v := 1) (by decide) ?_
  refine z_iadd O dJx4a65c_grow_d5877_6 ?_
  refine z_callV O (c_grow1_first hl hab hw hbn) zI zm5_15 zm5_16 zm5_17 zm0_31 zm5_14 ⟨rfl, by decide +kernel, by decide +kernel, (show _ = some 1 by decide +kernel)⟩ rfl (hw) ⟨Nat.le_of_ble_eq_true rfl, Nat.le_of_ble_eq_true rfl⟩ ⟨Nat.le_of_ble_eq_true rfl, Nat.le_of_ble_eq_true rfl⟩ dJx4a65c_grow_d5877_7 rfl (Nat.le_of_ble_eq_true rfl) (fun _ _ _ h => h.elim) (fun r w1 ad1 hp => ?_)
  obtain ⟨q, rfl, rfl, rfl⟩ := hp
  exact z_aret O (r := (some (va_up ad b q b))) rfl (by first | exact Or.inl ⟨_, rfl⟩ | exact Or.inr ⟨_, rfl⟩) dJx4a65c_grow_d5877_10 (Nat.le_of_ble_eq_true rfl) (Nat.le_of_ble_eq_true rfl) ⟨q, rfl, rfl, rfl⟩

set_option maxRecDepth 100000 in
set_option maxHeartbeats 4000000 in
theorem c_add3_first {G : zG} {l : Launch} (hl : l.stackTraces = false) {w : zH} {ad : Nat → Nat} {C : String} {T : u_T} {N ci : Nat} (hC : C ∈ zObs) (hc : vwCl[ci]? = some (C, T, N)) {a b e : Nat} {fs : List Value} {m0 : Int32} (hab : a ≠ b) (hw : w a = some (zLs m0 (.ref G.2.2.2.1) 0)) (hbn : w b = none) (he : w e = some (.inr (ci, fs))) (hea : e ≠ a) (heb : e ≠ b) : zCt G l yJx4a65c_add_72be8 (zws yJx4a65c_add_72be8 cJx4a65c_add_72be8 4 none) ({ frames := 3, cells := 1, slots := 10, locals := 64 }) [.ref (ad a), .ref (ad e), .ref G.2.2.2.1, .int 0] (w) ad (fun r w1 ad1 => ∃ q, none = r ∧ wU (wU (wU (wU (w) b (zAr 10 (fun _ => none))) a (zLs m0 (.ref (va_up ad b q b)) 0)) b (zAr 10 (va_up (fun _ => none) 0 (some (va_up ad b q e))))) a (zLs m0 (.ref (va_up ad b q b)) (0 + 1)) = w1 ∧ va_up ad b q = ad1) (zNoX) := by
  refine z_body hl (by decide +kernel) (Nat.le_of_ble_eq_true rfl) (fun X O => ?_)
  refine z_iload_n O dJx4a65c_add_72be8_0 rfl ?_
  refine z_aload_n O dJx4a65c_add_72be8_1 rfl ?_
  refine z_alenE O dJx4a65c_add_72be8_2 ?_
  refine z_icmp_ne O dJx4a65c_add_72be8_3 (tgt := 11) (by decide) (fun h => absurd rfl h) (fun _ => ?_)
  refine z_aload_n O dJx4a65c_add_72be8_6 rfl ?_
  refine z_callV O (c_grow0_first hl hab hw hbn) zI zm5_19 zm5_20 zm5_21 zm0_31 zm5_18 ⟨rfl, by decide +kernel, by decide +kernel, (show _ = some 0 by decide +kernel)⟩ rfl (hw) ⟨Nat.le_of_ble_eq_true rfl, Nat.le_of_ble_eq_true rfl⟩ ⟨Nat.le_of_ble_eq_true rfl, Nat.le_of_ble_eq_true rfl⟩ dJx4a65c_add_72be8_7 rfl (Nat.le_of_ble_eq_true rfl) (fun _ _ _ h => h.elim) (fun r w1 ad1 hp => ?_)
  obtain ⟨q, rfl, rfl, rfl⟩ := hp
  rw [show ad a = va_up ad b q a from (zup_n hab).symm, show ad e = va_up ad b q e from (zup_n heb).symm]
  refine z_astore_n O dJx4a65c_add_72be8_10 (by decide) ?_
  refine z_aload_n O dJx4a65c_add_72be8_11 rfl ?_
  refine z_iload_n O dJx4a65c_add_72be8_12 rfl ?_
  refine z_aload_n O dJx4a65c_add_72be8_13 rfl ?_
  refine z_aast O hC hc dJx4a65c_add_72be8_14 ((wU_n (Ne.symm hab)).trans wU_s) ((wU_n hea).trans ((wU_n heb).trans he)) 0 rfl (by decide) (by decide) wU_eq ?_
  refine z_aload_n O dJx4a65c_add_72be8_15 rfl ?_
  refine z_iload_n O dJx4a65c_add_72be8_16 rfl ?_
  refine z_iconst O dJx4a65c_add_72be8_17 (v := 1) (by decide) ?_
  refine z_iadd O dJx4a65c_add_72be8_18 ?_
  refine z_put O (fk := 2) (fun x h => zI x (zu_RJx4a65c x h)) tyJx4a65c tyJx4a65c_ok nmJx4a65c rfl (by decide) (zI _ zm0_45) rfl dJx4a65c_add_72be8_19 rfl rfl ((wU_n hab).trans wU_s) (Nat.le_of_ble_eq_true rfl) (wU_eq) ?_
  exact z_vret O dJx4a65c_add_72be8_22 (Nat.le_of_ble_eq_true rfl) (Nat.le_of_ble_eq_true rfl) ⟨q, rfl, rfl, rfl⟩

set_option maxRecDepth 100000 in
set_option maxHeartbeats 4000000 in
theorem c_add_first {G : zG} {l : Launch} (hl : l.stackTraces = false) {w : zH} {ad : Nat → Nat} {C : String} {T : u_T} {N ci : Nat} (hC : C ∈ zObs) (hc : vwCl[ci]? = some (C, T, N)) {a b e : Nat} {fs : List Value} {m0 : Int32} (hab : a ≠ b) (hw : w a = some (zLs m0 (.ref G.2.2.2.1) 0)) (hbn : w b = none) (he : w e = some (.inr (ci, fs))) (hea : e ≠ a) (heb : e ≠ b) : zCt G l yJx4a65c_add_9ea2d (zws yJx4a65c_add_9ea2d cJx4a65c_add_9ea2d 2 (some .boolean)) ({ frames := 4, cells := 1, slots := 10, locals := 87 }) [.ref (ad a), .ref (ad e)] (w) ad (fun r w1 ad1 => ∃ q, some (.int 1) = r ∧ wU (wU (wU (wU (wU w a (zLs (m0 + 1) (.ref G.2.2.2.1) 0)) b (zAr 10 (fun _ => none))) a (zLs (m0 + 1) (.ref (va_up ad b q b)) 0)) b (zAr 10 (va_up (fun _ => none) 0 (some (va_up ad b q e))))) a (zLs (m0 + 1) (.ref (va_up ad b q b)) (0 + 1)) = w1 ∧ va_up ad b q = ad1) (zNoX) := by
  refine z_body hl (by decide +kernel) (Nat.le_of_ble_eq_true rfl) (fun X O => ?_)
  refine z_aload_n O dJx4a65c_add_9ea2d_0 rfl ?_
  refine z_dup O dJx4a65c_add_9ea2d_1 rfl ?_
  refine z_getS O (fk := 0) (fun x h => zI x (zu_RJx4a65c x h)) rfl (by decide) (zI _ zm0_43) (zI _ zm0_44) dJx4a65c_add_9ea2d_2 (hw) rfl ?_
  refine z_iconst O dJx4a65c_add_9ea2d_5 (v := 1) (by decide) ?_
  refine z_iadd O dJx4a65c_add_9ea2d_6 ?_
  refine z_putS O (fk := 0) (fun x h => zI x (zu_RJx4a65c x h)) tyJx4a65c tyJx4a65c_ok nmJx4a65c rfl (by decide) (zI _ zm0_43) (zI _ zm0_44) rfl dJx4a65c_add_9ea2d_7 rfl rfl (hw) (Nat.le_of_ble_eq_true rfl) (wU_eq) ?_
  refine z_aload_n O dJx4a65c_add_9ea2d_10 rfl ?_
  refine z_aload_n O dJx4a65c_add_9ea2d_11 rfl ?_
  refine z_aload_n O dJx4a65c_add_9ea2d_12 rfl ?_
  refine z_get O (fk := 1) (fun x h => zI x (zu_RJx4a65c x h)) rfl (by decide) (zI _ zm0_24) dJx4a65c_add_9ea2d_13 (wU_s) rfl ?_
  refine z_aload_n O dJx4a65c_add_9ea2d_16 rfl ?_
  refine z_get O (fk := 2) (fun x h => zI x (zu_RJx4a65c x h)) rfl (by decide) (zI _ zm0_45) dJx4a65c_add_9ea2d_17 (wU_s) rfl ?_
  refine z_callV O (c_add3_first hl hC hc hab (m0 := m0 + 1) wU_s ((wU_n (Ne.symm hab)).trans hbn) ((wU_n hea).trans he) hea heb) zI zm5_23 zm5_24 zm5_25 zm0_31 zm5_22 ⟨rfl, by decide +kernel, by decide +kernel, (show _ = some 3 by decide +kernel)⟩ rfl (wU_s) ⟨Nat.le_of_ble_eq_true rfl, Nat.le_of_ble_eq_true rfl⟩ ⟨Nat.le_of_ble_eq_true rfl, Nat.le_of_ble_eq_true rfl⟩ dJx4a65c_add_9ea2d_20 rfl (Nat.le_of_ble_eq_true rfl) (fun _ _ _ h => h.elim) (fun r w1 ad1 hp => ?_)
  obtain ⟨q, rfl, rfl, rfl⟩ := hp
  refine z_iconst O dJx4a65c_add_9ea2d_23 (v := 1) (by decide) ?_
  exact z_zret O rfl rfl dJx4a65c_add_9ea2d_24 (Nat.le_of_ble_eq_true rfl) (Nat.le_of_ble_eq_true rfl) ⟨q, rfl, rfl, rfl⟩
end
section
set_option maxRecDepth 100000 in
set_option maxHeartbeats 4000000 in
theorem c_J8_newLength_cabcc {G : zG} {l : Launch} (hl : l.stackTraces = false) {w : zH} {ad : Nat → Nat} {x y z : Int32} (h1 : ¬ x + (if y < z then z else y) ≤ 0) (h2 : ¬ 2147483639 < x + (if y < z then z else y)) : zCt G l yJ8_newLength_cabcc (zws yJ8_newLength_cabcc cJ8_newLength_cabcc 4 (some .int)) ({ frames := 1, cells := 0, slots := 0, locals := 21 }) [.int x, .int y, .int z] (w) ad (fun r w1 ad1 => some (.int (x + (if y < z then z else y))) = r ∧ w = w1 ∧ ad = ad1) (zNoX) := by
  refine z_body hl (by decide +kernel) (Nat.le_of_ble_eq_true rfl) (fun X O => ?_)
  refine z_iload_n O dJ8_newLength_cabcc_0 rfl ?_
  refine z_iload_n O dJ8_newLength_cabcc_1 rfl ?_
  refine z_iload_n O dJ8_newLength_cabcc_2 rfl ?_
  refine z_mmax O zI zm4_58 zm1_14 zm1_11 zm1_15 dJ8_newLength_cabcc_3 (Nat.le_of_ble_eq_true rfl) (Nat.le_of_ble_eq_true rfl) (Nat.le_of_ble_eq_true rfl) (Nat.le_of_ble_eq_true rfl) ?_
  refine z_iadd O dJ8_newLength_cabcc_6 ?_
  refine z_istore_n O dJ8_newLength_cabcc_7 (by decide) ?_
  refine z_iconst O dJ8_newLength_cabcc_8 (v := 0) (by decide) ?_
  refine z_iload_n O dJ8_newLength_cabcc_9 rfl ?_
  refine z_icmp_ge O dJ8_newLength_cabcc_10 (tgt := 21) (by decide) (fun h => ?_) (fun h => ?_)
  · exact absurd h h1
  · refine z_iload_n O dJ8_newLength_cabcc_13 rfl ?_
    refine z_ldc O (zI _ zm4_56) dJ8_newLength_cabcc_14 ?_
    refine z_icmp_gt O dJ8_newLength_cabcc_16 (tgt := 21) (by decide) (fun h9 => ?_) (fun h9 => ?_)
    · exact absurd h9 h2
    · refine z_iload_n O dJ8_newLength_cabcc_19 rfl ?_
      exact z_iret O dJ8_newLength_cabcc_20 (Nat.le_of_ble_eq_true rfl) (Nat.le_of_ble_eq_true rfl) ⟨rfl, rfl, rfl⟩

set_option maxRecDepth 100000 in
set_option maxHeartbeats 4000000 in
theorem c_J7_copyOf_6403c {G : zG} {l : Launch} (hl : l.stackTraces = false) {w : zH} {ad : Nat → Nat} {C : String} {T : u_T} {N ci : Nat} (hC : C ∈ zObs) (hc : vwCl[ci]? = some (C, T, N)) {b t : Nat} {f : Nat → Option Nat} (hbt : b ≠ t) (hb : w b = some (zAr 10 f)) (htn : w t = none) (hel : ∀ i, i < 10 → ∃ c fs, f i = some (ad c) ∧ w c = some (.inr (ci, fs)) ∧ c ≠ t) : zCt G l yJ7_copyOf_6403c (zws yJ7_copyOf_6403c cJ7_copyOf_6403c 4 (some (.array (.object "java/lang/Object")))) ({ frames := 1, cells := 1, slots := 15, locals := 60 }) [.ref (ad b), .int 15, .ref G.2.2.2.2] (w) ad (fun r w1 ad1 => ∃ q, some (.ref (va_up ad t q t)) = r ∧ wU w t (zAr 15 (fun k => if k < 10 then f k else none)) = w1 ∧ va_up ad t q = ad1) (zNoX) := by
  refine z_body hl (by decide +kernel) (Nat.le_of_ble_eq_true rfl) (fun X O => ?_)
  refine z_aload_n O dJ7_copyOf_6403c_0 rfl ?_
  refine z_ldcM O (zI _ zm4_63) dJ7_copyOf_6403c_1 ?_
  refine z_acmp_ne O (rx := some G.2.2.2.2) (ry := some G.2.2.2.2) dJ7_copyOf_6403c_3 (tgt := 13) (by decide) (fun h => absurd rfl h) (fun _ => ?_)
  refine z_iload_n O dJ7_copyOf_6403c_6 rfl ?_
  refine z_anew O (w' := fun _ => wU w t (zAr 15 (fun _ => none))) t 6 (Or.inr ⟨rfl, rfl⟩) (zI _ zm4_64) (N := 15) (by decide) (by decide) (by decide) (Nat.le_of_ble_eq_true rfl) (Nat.le_of_ble_eq_true rfl) dJ7_copyOf_6403c_7 htn (fun _ => wU_eq) (fun q => ?_)
  rw [show ad b = va_up ad t q b from (zup_n hbt).symm]
  refine z_goto O dJ7_copyOf_6403c_10 (tgt := 24) (by decide) ?_
  refine z_astore_n O dJ7_copyOf_6403c_24 (by decide) ?_
  refine z_aload_n O dJ7_copyOf_6403c_25 rfl ?_
  refine z_iconst O dJ7_copyOf_6403c_26 (v := 0) (by decide) ?_
  refine z_aload_n O dJ7_copyOf_6403c_27 rfl ?_
  refine z_iconst O dJ7_copyOf_6403c_28 (v := 0) (by decide) ?_
  refine z_aload_n O dJ7_copyOf_6403c_29 rfl ?_
  refine z_alen O (t := 6) (by decide) dJ7_copyOf_6403c_30 ((wU_n hbt).trans hb) ?_
  refine z_iload_n O dJ7_copyOf_6403c_31 rfl ?_
  refine z_mmin O zI zm4_65 zm1_10 zm1_11 zm1_12 dJ7_copyOf_6403c_32 (Nat.le_of_ble_eq_true rfl) (Nat.le_of_ble_eq_true rfl) (Nat.le_of_ble_eq_true rfl) (Nat.le_of_ble_eq_true rfl) ?_
  refine z_copy O hC hc (zI _ zm4_66) (zI _ zm4_67) (zI _ zm4_68) (zI _ zm4_69) (n := 10) ((wU_n hbt).trans hb) wU_s (by decide) (by decide) (by decide) (fun i hi => ?_) wU_eq (Nat.le_of_ble_eq_true rfl) (Nat.le_of_ble_eq_true (by decide)) dJ7_copyOf_6403c_35 ?_
  · obtain ⟨c, fs, h1, h2, h3⟩ := hel i hi
    exact ⟨c, fs, by rw [h1, zup_n h3], (wU_n h3).trans h2⟩
  · refine z_aload_n O dJ7_copyOf_6403c_38 rfl ?_
    exact z_aret O (r := (some (va_up ad t q t))) rfl (by first | exact Or.inl ⟨_, rfl⟩ | exact Or.inr ⟨_, rfl⟩) dJ7_copyOf_6403c_39 (Nat.le_of_ble_eq_true rfl) (Nat.le_of_ble_eq_true rfl) ⟨q, rfl, by rw [wU_wU]; rfl, rfl⟩

set_option maxRecDepth 100000 in
set_option maxHeartbeats 4000000 in
theorem c_J7_copyOf_1904c {G : zG} {l : Launch} (hl : l.stackTraces = false) {w : zH} {ad : Nat → Nat} {C : String} {T : u_T} {N ci : Nat} (hC : C ∈ zObs) (hc : vwCl[ci]? = some (C, T, N)) {b t : Nat} {f : Nat → Option Nat} (hbt : b ≠ t) (hb : w b = some (zAr 10 f)) (htn : w t = none) (hel : ∀ i, i < 10 → ∃ c fs, f i = some (ad c) ∧ w c = some (.inr (ci, fs)) ∧ c ≠ t) : zCt G l yJ7_copyOf_1904c (zws yJ7_copyOf_1904c cJ7_copyOf_1904c 2 (some (.array (.object "java/lang/Object")))) ({ frames := 2, cells := 1, slots := 15, locals := 83 }) [.ref (ad b), .int 15] (w) ad (fun r w1 ad1 => ∃ q, some (.ref (va_up ad t q t)) = r ∧ wU w t (zAr 15 (fun k => if k < 10 then f k else none)) = w1 ∧ va_up ad t q = ad1) (zNoX) := by
  refine z_body hl (by decide +kernel) (Nat.le_of_ble_eq_true rfl) (fun X O => ?_)
  refine z_aload_n O dJ7_copyOf_1904c_0 rfl ?_
  refine z_iload_n O dJ7_copyOf_1904c_1 rfl ?_
  refine z_aload_n O dJ7_copyOf_1904c_2 rfl ?_
  refine z_getC O (zI _ zm5_1) (zI _ zm5_2) (zI _ zm5_3) (zI _ zm5_4) hb (Nat.le_of_ble_eq_true rfl) (Nat.le_of_ble_eq_true rfl) dJ7_copyOf_1904c_3 ?_
  refine z_callS O (c_J7_copyOf_6403c hl hC hc hbt hb htn hel) zI zm5_5 zm5_6 zm5_7 zm4_62 ⟨by decide +kernel, by decide +kernel, (show _ = some 3 by decide +kernel)⟩ ⟨Nat.le_of_ble_eq_true rfl, Nat.le_of_ble_eq_true rfl⟩ ⟨Nat.le_of_ble_eq_true rfl, Nat.le_of_ble_eq_true rfl⟩ dJ7_copyOf_1904c_6 rfl (Nat.le_of_ble_eq_true rfl) (fun _ _ _ h => h.elim) (fun r w1 ad1 hp => ?_)
  obtain ⟨q, rfl, rfl, rfl⟩ := hp
  exact z_aret O (r := (some (va_up ad t q t))) rfl (by first | exact Or.inl ⟨_, rfl⟩ | exact Or.inr ⟨_, rfl⟩) dJ7_copyOf_1904c_9 (Nat.le_of_ble_eq_true rfl) (Nat.le_of_ble_eq_true rfl) ⟨q, rfl, rfl, rfl⟩

set_option maxRecDepth 100000 in
set_option maxHeartbeats 4000000 in
theorem c_grow1_ten {G : zG} {l : Launch} (hl : l.stackTraces = false) {w : zH} {ad : Nat → Nat} {C : String} {T : u_T} {N ci : Nat} (hC : C ∈ zObs) (hc : vwCl[ci]? = some (C, T, N)) {a b t : Nat} {m0 : Int32} {f : Nat → Option Nat} (hat : a ≠ t) (hw : w a = some (zLs m0 (.ref (ad b)) (nI 10))) (hbt : b ≠ t) (hb : w b = some (zAr 10 f)) (htn : w t = none) (hel : ∀ i, i < 10 → ∃ c fs, f i = some (ad c) ∧ w c = some (.inr (ci, fs)) ∧ c ≠ t) : zCt G l yJx4a65c_grow_92f84 (zws yJx4a65c_grow_92f84 cJx4a65c_grow_92f84 4 (some (.array (.object "java/lang/Object")))) ({ frames := 3, cells := 1, slots := 15, locals := 104 }) [.ref (ad a), .int (nI 10 + 1)] (w) ad (fun r w1 ad1 => ∃ q, some (.ref (va_up ad t q t)) = r ∧ wU (wU w t (zAr 15 (fun k => if k < 10 then f k else none))) a (zLs m0 (.ref (va_up ad t q t)) (nI 10)) = w1 ∧ va_up ad t q = ad1) (zNoX) := by
  refine z_body hl (by decide +kernel) (Nat.le_of_ble_eq_true rfl) (fun X O => ?_)
  refine z_aload_n O dJx4a65c_grow_92f84_0 rfl ?_
  refine z_get O (fk := 1) (fun x h => zI x (zu_RJx4a65c x h)) rfl (by decide) (zI _ zm0_24) dJx4a65c_grow_92f84_1 (hw) rfl ?_
  refine z_alen O (t := 6) (by decide) dJx4a65c_grow_92f84_4 (hb) ?_
  refine z_istore_n O dJx4a65c_grow_92f84_5 (by decide) ?_
  refine z_iload_n O dJx4a65c_grow_92f84_6 rfl ?_
  refine z_if_gt O dJx4a65c_grow_92f84_7 (tgt := 20) (by decide) (fun _ => ?_) (fun h => absurd (show (0 : Int32) < nI 10 by decide) h)
  refine z_iload_n O dJx4a65c_grow_92f84_20 rfl ?_
  refine z_iload_n O dJx4a65c_grow_92f84_21 rfl ?_
  refine z_iload_n O dJx4a65c_grow_92f84_22 rfl ?_
  refine z_isub O dJx4a65c_grow_92f84_23 ?_
  refine z_iload_n O dJx4a65c_grow_92f84_24 rfl ?_
  refine z_iconst O dJx4a65c_grow_92f84_25 (v := 1) (by decide) ?_
  refine z_ishr O dJx4a65c_grow_92f84_26 ?_
  refine z_callS O (c_J8_newLength_cabcc hl (x := nI 10) (y := nI 10 + 1 - nI 10) (z := nI 10 >>> (1 &&& 31)) (by decide) (by decide)) zI zm5_10 zm5_11 zm4_61 zm4_57 ⟨by decide +kernel, by decide +kernel, (show _ = some 3 by decide +kernel)⟩ ⟨Nat.le_of_ble_eq_true rfl, Nat.le_of_ble_eq_true rfl⟩ ⟨Nat.le_of_ble_eq_true rfl, Nat.le_of_ble_eq_true rfl⟩ dJx4a65c_grow_92f84_27 rfl (Nat.le_of_ble_eq_true rfl) (fun _ _ _ h => h.elim) (fun r w1 ad1 hp => ?_)
  obtain ⟨rfl, rfl, rfl⟩ := hp
  rw [show (nI 10 + (if (nI 10 + 1 - nI 10 : Int32) < nI 10 >>> ((1 : Int32) &&& 31) then nI 10 >>> ((1 : Int32) &&& 31) else nI 10 + 1 - nI 10) : Int32) = 15 from by decide]
  refine z_istore_n O dJx4a65c_grow_92f84_30 (by decide) ?_
  refine z_aload_n O dJx4a65c_grow_92f84_31 rfl ?_
  refine z_aload_n O dJx4a65c_grow_92f84_32 rfl ?_
  refine z_get O (fk := 1) (fun x h => zI x (zu_RJx4a65c x h)) rfl (by decide) (zI _ zm0_24) dJx4a65c_grow_92f84_33 (hw) rfl ?_
  refine z_iload_n O dJx4a65c_grow_92f84_36 rfl ?_
  refine z_callS O (c_J7_copyOf_1904c hl hC hc hbt hb htn hel) zI zm5_12 zm5_13 zm5_7 zm5_0 ⟨by decide +kernel, by decide +kernel, (show _ = some 2 by decide +kernel)⟩ ⟨Nat.le_of_ble_eq_true rfl, Nat.le_of_ble_eq_true rfl⟩ ⟨Nat.le_of_ble_eq_true rfl, Nat.le_of_ble_eq_true rfl⟩ dJx4a65c_grow_92f84_37 rfl (Nat.le_of_ble_eq_true rfl) (fun _ _ _ h => h.elim) (fun r w1 ad1 hp => ?_)
  obtain ⟨q, rfl, rfl, rfl⟩ := hp
  rw [show ad a = va_up ad t q a from (zup_n hat).symm]
  refine z_dup_x1 O dJx4a65c_grow_92f84_40 rfl rfl ?_
  refine z_put O (fk := 1) (fun x h => zI x (zu_RJx4a65c x h)) tyJx4a65c tyJx4a65c_ok nmJx4a65c rfl (by decide) (zI _ zm0_24) rfl dJx4a65c_grow_92f84_41 rfl rfl ((wU_n hat).trans hw) (Nat.le_of_ble_eq_true rfl) (wU_eq) ?_
  exact z_aret O (r := (some (va_up ad t q t))) rfl (by first | exact Or.inl ⟨_, rfl⟩ | exact Or.inr ⟨_, rfl⟩) dJx4a65c_grow_92f84_44 (Nat.le_of_ble_eq_true rfl) (Nat.le_of_ble_eq_true rfl) ⟨q, rfl, rfl, rfl⟩

set_option maxRecDepth 100000 in
set_option maxHeartbeats 4000000 in
theorem c_grow0_ten {G : zG} {l : Launch} (hl : l.stackTraces = false) {w : zH} {ad : Nat → Nat} {C : String} {T : u_T} {N ci : Nat} (hC : C ∈ zObs) (hc : vwCl[ci]? = some (C, T, N)) {a b t : Nat} {m0 : Int32} {f : Nat → Option Nat} (hat : a ≠ t) (hw : w a = some (zLs m0 (.ref (ad b)) (nI 10))) (hbt : b ≠ t) (hb : w b = some (zAr 10 f)) (htn : w t = none) (hel : ∀ i, i < 10 → ∃ c fs, f i = some (ad c) ∧ w c = some (.inr (ci, fs)) ∧ c ≠ t) : zCt G l yJx4a65c_grow_d5877 (zws yJx4a65c_grow_d5877 cJx4a65c_grow_d5877 1 (some (.array (.object "java/lang/Object")))) ({ frames := 4, cells := 1, slots := 15, locals := 127 }) [.ref (ad a)] (w) ad (fun r w1 ad1 => ∃ q, some (.ref (va_up ad t q t)) = r ∧ wU (wU w t (zAr 15 (fun k => if k < 10 then f k else none))) a (zLs m0 (.ref (va_up ad t q t)) (nI 10)) = w1 ∧ va_up ad t q = ad1) (zNoX) := by
  refine z_body hl (by decide +kernel) (Nat.le_of_ble_eq_true rfl) (fun X O => ?_)
  refine z_aload_n O dJx4a65c_grow_d5877_0 rfl ?_
  refine z_aload_n O dJx4a65c_grow_d5877_1 rfl ?_
  refine z_get O (fk := 2) (fun x h => zI x (zu_RJx4a65c x h)) rfl (by decide) (zI _ zm0_45) dJx4a65c_grow_d5877_2 (hw) rfl ?_
  refine z_iconst O dJx4a65c_grow_d5877_5 (v := 1) (by decide) ?_
  refine z_iadd O dJx4a65c_grow_d5877_6 ?_
  refine z_callV O (c_grow1_ten hl hC hc hat hw hbt hb htn hel) zI zm5_15 zm5_16 zm5_17 zm0_31 zm5_14 ⟨rfl, by decide +kernel, by decide +kernel, (show _ = some 1 by decide +kernel)⟩ rfl (hw) ⟨Nat.le_of_ble_eq_true rfl, Nat.le_of_ble_eq_true rfl⟩ ⟨Nat.le_of_ble_eq_true rfl, Nat.le_of_ble_eq_true rfl⟩ dJx4a65c_grow_d5877_7 rfl (Nat.le_of_ble_eq_true rfl) (fun _ _ _ h => h.elim) (fun r w1 ad1 hp => ?_)
  obtain ⟨q, rfl, rfl, rfl⟩ := hp
  exact z_aret O (r := (some (va_up ad t q t))) rfl (by first | exact Or.inl ⟨_, rfl⟩ | exact Or.inr ⟨_, rfl⟩) dJx4a65c_grow_d5877_10 (Nat.le_of_ble_eq_true rfl) (Nat.le_of_ble_eq_true rfl) ⟨q, rfl, rfl, rfl⟩

set_option maxRecDepth 100000 in
set_option maxHeartbeats 4000000 in
theorem c_add3_ten {G : zG} {l : Launch} (hl : l.stackTraces = false) {w : zH} {ad : Nat → Nat} {C : String} {T : u_T} {N ci : Nat} (hC : C ∈ zObs) (hc : vwCl[ci]? = some (C, T, N)) {a b t e : Nat} {fs : List Value} {m0 : Int32} {f : Nat → Option Nat} (hat : a ≠ t) (hw : w a = some (zLs m0 (.ref (ad b)) (nI 10))) (hbt : b ≠ t) (hb : w b = some (zAr 10 f)) (htn : w t = none) (hel : ∀ i, i < 10 → ∃ c fs, f i = some (ad c) ∧ w c = some (.inr (ci, fs)) ∧ c ≠ t) (he : w e = some (.inr (ci, fs))) (hea : e ≠ a) (het : e ≠ t) : zCt G l yJx4a65c_add_72be8 (zws yJx4a65c_add_72be8 cJx4a65c_add_72be8 4 none) ({ frames := 5, cells := 1, slots := 15, locals := 147 }) [.ref (ad a), .ref (ad e), .ref (ad b), .int (nI 10)] (w) ad (fun r w1 ad1 => ∃ q, none = r ∧ wU (wU (wU (wU (w) t (zAr 15 (fun k => if k < 10 then f k else none))) a (zLs m0 (.ref (va_up ad t q t)) (nI 10))) t (zAr 15 (va_up (fun k => if k < 10 then f k else none) 10 (some (va_up ad t q e))))) a (zLs m0 (.ref (va_up ad t q t)) (nI 10 + 1)) = w1 ∧ va_up ad t q = ad1) (zNoX) := by
  refine z_body hl (by decide +kernel) (Nat.le_of_ble_eq_true rfl) (fun X O => ?_)
  refine z_iload_n O dJx4a65c_add_72be8_0 rfl ?_
  refine z_aload_n O dJx4a65c_add_72be8_1 rfl ?_
  refine z_alen O (t := 6) (by decide) dJx4a65c_add_72be8_2 (hb) ?_
  refine z_icmp_ne O dJx4a65c_add_72be8_3 (tgt := 11) (by decide) (fun h => absurd rfl h) (fun _ => ?_)
  refine z_aload_n O dJx4a65c_add_72be8_6 rfl ?_
  refine z_callV O (c_grow0_ten hl hC hc hat hw hbt hb htn hel) zI zm5_19 zm5_20 zm5_21 zm0_31 zm5_18 ⟨rfl, by decide +kernel, by decide +kernel, (show _ = some 0 by decide +kernel)⟩ rfl (hw) ⟨Nat.le_of_ble_eq_true rfl, Nat.le_of_ble_eq_true rfl⟩ ⟨Nat.le_of_ble_eq_true rfl, Nat.le_of_ble_eq_true rfl⟩ dJx4a65c_add_72be8_7 rfl (Nat.le_of_ble_eq_true rfl) (fun _ _ _ h => h.elim) (fun r w1 ad1 hp => ?_)
  obtain ⟨q, rfl, rfl, rfl⟩ := hp
  rw [show ad a = va_up ad t q a from (zup_n hat).symm, show ad e = va_up ad t q e from (zup_n het).symm]
  refine z_astore_n O dJx4a65c_add_72be8_10 (by decide) ?_
  refine z_aload_n O dJx4a65c_add_72be8_11 rfl ?_
  refine z_iload_n O dJx4a65c_add_72be8_12 rfl ?_
  refine z_aload_n O dJx4a65c_add_72be8_13 rfl ?_
  refine z_aast O hC hc dJx4a65c_add_72be8_14 ((wU_n (Ne.symm hat)).trans wU_s) ((wU_n hea).trans ((wU_n het).trans he)) 10 rfl (by decide) (by decide) wU_eq ?_
  refine z_aload_n O dJx4a65c_add_72be8_15 rfl ?_
  refine z_iload_n O dJx4a65c_add_72be8_16 rfl ?_
  refine z_iconst O dJx4a65c_add_72be8_17 (v := 1) (by decide) ?_
  refine z_iadd O dJx4a65c_add_72be8_18 ?_
  refine z_put O (fk := 2) (fun x h => zI x (zu_RJx4a65c x h)) tyJx4a65c tyJx4a65c_ok nmJx4a65c rfl (by decide) (zI _ zm0_45) rfl dJx4a65c_add_72be8_19 rfl rfl ((wU_n hat).trans wU_s) (Nat.le_of_ble_eq_true rfl) (wU_eq) ?_
  exact z_vret O dJx4a65c_add_72be8_22 (Nat.le_of_ble_eq_true rfl) (Nat.le_of_ble_eq_true rfl) ⟨q, rfl, rfl, rfl⟩

set_option maxRecDepth 100000 in
set_option maxHeartbeats 4000000 in
theorem c_add_ten {G : zG} {l : Launch} (hl : l.stackTraces = false) {w : zH} {ad : Nat → Nat} {C : String} {T : u_T} {N ci : Nat} (hC : C ∈ zObs) (hc : vwCl[ci]? = some (C, T, N)) {a b t e : Nat} {fs : List Value} {m0 : Int32} {f : Nat → Option Nat} (hat : a ≠ t) (hw : w a = some (zLs m0 (.ref (ad b)) (nI 10))) (hbt : b ≠ t) (hb : w b = some (zAr 10 f)) (htn : w t = none) (hel : ∀ i, i < 10 → ∃ c fs, f i = some (ad c) ∧ w c = some (.inr (ci, fs)) ∧ c ≠ a ∧ c ≠ t) (he : w e = some (.inr (ci, fs))) (hea : e ≠ a) (het : e ≠ t) (hba : b ≠ a) : zCt G l yJx4a65c_add_9ea2d (zws yJx4a65c_add_9ea2d cJx4a65c_add_9ea2d 2 (some .boolean)) ({ frames := 6, cells := 1, slots := 15, locals := 170 }) [.ref (ad a), .ref (ad e)] (w) ad (fun r w1 ad1 => ∃ q, some (.int 1) = r ∧ wU (wU (wU (wU (wU w a (zLs (m0 + 1) (.ref (ad b)) (nI 10))) t (zAr 15 (fun k => if k < 10 then f k else none))) a (zLs (m0 + 1) (.ref (va_up ad t q t)) (nI 10))) t (zAr 15 (va_up (fun k => if k < 10 then f k else none) 10 (some (va_up ad t q e))))) a (zLs (m0 + 1) (.ref (va_up ad t q t)) (nI 10 + 1)) = w1 ∧ va_up ad t q = ad1) (zNoX) := by
  refine z_body hl (by decide +kernel) (Nat.le_of_ble_eq_true rfl) (fun X O => ?_)
  refine z_aload_n O dJx4a65c_add_9ea2d_0 rfl ?_
  refine z_dup O dJx4a65c_add_9ea2d_1 rfl ?_
  refine z_getS O (fk := 0) (fun x h => zI x (zu_RJx4a65c x h)) rfl (by decide) (zI _ zm0_43) (zI _ zm0_44) dJx4a65c_add_9ea2d_2 (hw) rfl ?_
  refine z_iconst O dJx4a65c_add_9ea2d_5 (v := 1) (by decide) ?_
  refine z_iadd O dJx4a65c_add_9ea2d_6 ?_
  refine z_putS O (fk := 0) (fun x h => zI x (zu_RJx4a65c x h)) tyJx4a65c tyJx4a65c_ok nmJx4a65c rfl (by decide) (zI _ zm0_43) (zI _ zm0_44) rfl dJx4a65c_add_9ea2d_7 rfl rfl (hw) (Nat.le_of_ble_eq_true rfl) (wU_eq) ?_
  refine z_aload_n O dJx4a65c_add_9ea2d_10 rfl ?_
  refine z_aload_n O dJx4a65c_add_9ea2d_11 rfl ?_
  refine z_aload_n O dJx4a65c_add_9ea2d_12 rfl ?_
  refine z_get O (fk := 1) (fun x h => zI x (zu_RJx4a65c x h)) rfl (by decide) (zI _ zm0_24) dJx4a65c_add_9ea2d_13 (wU_s) rfl ?_
  refine z_aload_n O dJx4a65c_add_9ea2d_16 rfl ?_
  refine z_get O (fk := 2) (fun x h => zI x (zu_RJx4a65c x h)) rfl (by decide) (zI _ zm0_45) dJx4a65c_add_9ea2d_17 (wU_s) rfl ?_
  refine z_callV O (c_add3_ten hl hC hc hat (m0 := m0 + 1) wU_s hbt ((wU_n hba).trans hb) ((wU_n (Ne.symm hat)).trans htn) (fun i hi => (hel i hi).elim fun c h => h.elim fun fs h => ⟨c, fs, h.1, (wU_n h.2.2.1).trans h.2.1, h.2.2.2⟩) ((wU_n hea).trans he) hea het) zI zm5_23 zm5_24 zm5_25 zm0_31 zm5_22 ⟨rfl, by decide +kernel, by decide +kernel, (show _ = some 3 by decide +kernel)⟩ rfl (wU_s) ⟨Nat.le_of_ble_eq_true rfl, Nat.le_of_ble_eq_true rfl⟩ ⟨Nat.le_of_ble_eq_true rfl, Nat.le_of_ble_eq_true rfl⟩ dJx4a65c_add_9ea2d_20 rfl (Nat.le_of_ble_eq_true rfl) (fun _ _ _ h => h.elim) (fun r w1 ad1 hp => ?_)
  obtain ⟨q, rfl, rfl, rfl⟩ := hp
  refine z_iconst O dJx4a65c_add_9ea2d_23 (v := 1) (by decide) ?_
  exact z_zret O rfl rfl dJx4a65c_add_9ea2d_24 (Nat.le_of_ble_eq_true rfl) (Nat.le_of_ble_eq_true rfl) ⟨q, rfl, rfl, rfl⟩

set_option maxRecDepth 100000 in
set_option maxHeartbeats 4000000 in
theorem c_clear {G : zG} {l : Launch} (hl : l.stackTraces = false) {w : zH} {ad : Nat → Nat} {a b n cp : Nat} {m0 : Int32} {f : Nat → Option Nat} (hba : b ≠ a) (hw : w a = some (zLs m0 (.ref (ad b)) (nI n))) (hb : w b = some (zAr cp f)) (hn : n ≤ cp) (hcp : cp < 2 ^ 31) : zCt G l yJx4a65c_clear_da8c8 (zws yJx4a65c_clear_da8c8 cJx4a65c_clear_da8c8 4 none) ({ frames := 0, cells := 0, slots := 0, locals := 0 }) [.ref (ad a)] (w) ad (fun r w1 ad1 => none = r ∧ wU (wU w a (zLs (m0 + 1) (.ref (ad b)) 0)) b (zAr cp (fun k => if k < n then none else f k)) = w1 ∧ ad = ad1) (zNoX) := by
  refine z_body hl (by decide +kernel) (Nat.le_of_ble_eq_true rfl) (fun X O => ?_)
  have L : ∀ (n9 : Nat) (i : Nat), i ≤ n → n < i + n9 → zV G X 4 0 0 27 [(0, .ref (ad a)), (1, .ref (ad b)), (2, .int (nI n)), (3, .int (nI i))] [] (wU (wU (wU w a (zLs (m0 + 1) (.ref (ad b)) (nI n))) a (zLs (m0 + 1) (.ref (ad b)) 0)) b (zAr cp (fun k => if k < i then none else f k))) ad := by
    intro n9
    induction n9 with
    | zero => intro i h1 h2; omega
    | succ n9 ih =>
      intro i h1 h2
      refine z_iload_n O dJx4a65c_clear_da8c8_27 rfl ?_
      refine z_iload_n O dJx4a65c_clear_da8c8_28 rfl ?_
      refine z_icmp_ge O dJx4a65c_clear_da8c8_29 (tgt := 42) (by decide) (fun h => ?_) (fun h => ?_)
      · have hi : i = n := by have := z_ge_ge (by omega) (by omega) h; omega
        subst hi
        exact z_vret O dJx4a65c_clear_da8c8_42 (Nat.le_of_ble_eq_true rfl) (Nat.le_of_ble_eq_true rfl) ⟨rfl, by rw [wU_wU], rfl⟩
      · have hi : i < n := z_ge_lt (by omega) (by omega) h
        refine z_aload_n O dJx4a65c_clear_da8c8_32 rfl ?_
        refine z_iload_n O dJx4a65c_clear_da8c8_33 rfl ?_
        refine z_null O dJx4a65c_clear_da8c8_34 ?_
        refine z_aastN O dJx4a65c_clear_da8c8_35 wU_s i rfl (by omega) hcp wU_eq ?_
        rw [wU_wU, show (Sum.inl (6, (cp, .inr (.inr (.inr (.inr (va_up (fun k => if k < i then none else f k) i none)))))) : zE) = zAr cp (fun k => if k < i + 1 then none else f k) from by
          unfold zAr
          rw [show va_up (fun k => if k < i then none else f k) i none = (fun k => if k < i + 1 then none else f k) from funext fun k => by
            by_cases q : k = i
            · subst q; simp [va_up]
            · by_cases q2 : k < i
              · simp [va_up, q, q2, show k < i + 1 by omega]
              · simp [va_up, q, q2, show ¬ k < i + 1 by omega]]]
        refine z_iincN O dJx4a65c_clear_da8c8_36 (a := i) rfl (by decide) ?_
        refine z_goto O dJx4a65c_clear_da8c8_39 (tgt := 27) (by decide) ?_
        exact zV.loc (ih (i + 1) (by omega) (by omega)) ⟨rfl, rfl, rfl, rfl, trivial⟩
  refine z_aload_n O dJx4a65c_clear_da8c8_0 rfl ?_
  refine z_dup O dJx4a65c_clear_da8c8_1 rfl ?_
  refine z_getS O (fk := 0) (fun x h => zI x (zu_RJx4a65c x h)) rfl (by decide) (zI _ zm0_43) (zI _ zm0_44) dJx4a65c_clear_da8c8_2 (hw) rfl ?_
  refine z_iconst O dJx4a65c_clear_da8c8_5 (v := 1) (by decide) ?_
  refine z_iadd O dJx4a65c_clear_da8c8_6 ?_
  refine z_putS O (fk := 0) (fun x h => zI x (zu_RJx4a65c x h)) tyJx4a65c tyJx4a65c_ok nmJx4a65c rfl (by decide) (zI _ zm0_43) (zI _ zm0_44) rfl dJx4a65c_clear_da8c8_7 rfl rfl (hw) (Nat.le_of_ble_eq_true rfl) (wU_eq) ?_
  refine z_aload_n O dJx4a65c_clear_da8c8_10 rfl ?_
  refine z_get O (fk := 1) (fun x h => zI x (zu_RJx4a65c x h)) rfl (by decide) (zI _ zm0_24) dJx4a65c_clear_da8c8_11 (wU_s) rfl ?_
  refine z_astore_n O dJx4a65c_clear_da8c8_14 (by decide) ?_
  refine z_aload_n O dJx4a65c_clear_da8c8_15 rfl ?_
  refine z_get O (fk := 2) (fun x h => zI x (zu_RJx4a65c x h)) rfl (by decide) (zI _ zm0_45) dJx4a65c_clear_da8c8_16 (wU_s) rfl ?_
  refine z_istore_n O dJx4a65c_clear_da8c8_19 (by decide) ?_
  refine z_aload_n O dJx4a65c_clear_da8c8_20 rfl ?_
  refine z_iconst O dJx4a65c_clear_da8c8_21 (v := 0) (by decide) ?_
  refine z_dup_x1 O dJx4a65c_clear_da8c8_22 rfl rfl ?_
  refine z_put O (fk := 2) (fun x h => zI x (zu_RJx4a65c x h)) tyJx4a65c tyJx4a65c_ok nmJx4a65c rfl (by decide) (zI _ zm0_45) rfl dJx4a65c_clear_da8c8_23 rfl rfl (wU_s) (Nat.le_of_ble_eq_true rfl) (wU_eq) ?_
  refine z_istore_n O dJx4a65c_clear_da8c8_26 (by decide) ?_
  refine zV.to (L (n + 1) 0 (by omega) (by omega)) ⟨rfl, rfl, rfl, rfl, trivial⟩ rfl (wU_id (by rw [wU_n hba, wU_n hba, hb]; simp))

set_option maxRecDepth 100000 in
set_option maxHeartbeats 4000000 in
theorem c_clear0 {G : zG} {l : Launch} (hl : l.stackTraces = false) {w : zH} {ad : Nat → Nat} {a : Nat} {m0 : Int32} (hw : w a = some (zLs m0 (.ref G.2.2.2.1) 0)) : zCt G l yJx4a65c_clear_da8c8 (zws yJx4a65c_clear_da8c8 cJx4a65c_clear_da8c8 4 none) ({ frames := 0, cells := 0, slots := 0, locals := 0 }) [.ref (ad a)] (w) ad (fun r w1 ad1 => none = r ∧ wU w a (zLs (m0 + 1) (.ref G.2.2.2.1) 0) = w1 ∧ ad = ad1) (zNoX) := by
  refine z_body hl (by decide +kernel) (Nat.le_of_ble_eq_true rfl) (fun X O => ?_)
  refine z_aload_n O dJx4a65c_clear_da8c8_0 rfl ?_
  refine z_dup O dJx4a65c_clear_da8c8_1 rfl ?_
  refine z_getS O (fk := 0) (fun x h => zI x (zu_RJx4a65c x h)) rfl (by decide) (zI _ zm0_43) (zI _ zm0_44) dJx4a65c_clear_da8c8_2 (hw) rfl ?_
  refine z_iconst O dJx4a65c_clear_da8c8_5 (v := 1) (by decide) ?_
  refine z_iadd O dJx4a65c_clear_da8c8_6 ?_
  refine z_putS O (fk := 0) (fun x h => zI x (zu_RJx4a65c x h)) tyJx4a65c tyJx4a65c_ok nmJx4a65c rfl (by decide) (zI _ zm0_43) (zI _ zm0_44) rfl dJx4a65c_clear_da8c8_7 rfl rfl (hw) (Nat.le_of_ble_eq_true rfl) (wU_eq) ?_
  refine z_aload_n O dJx4a65c_clear_da8c8_10 rfl ?_
  refine z_get O (fk := 1) (fun x h => zI x (zu_RJx4a65c x h)) rfl (by decide) (zI _ zm0_24) dJx4a65c_clear_da8c8_11 (wU_s) rfl ?_
  refine z_astore_n O dJx4a65c_clear_da8c8_14 (by decide) ?_
  refine z_aload_n O dJx4a65c_clear_da8c8_15 rfl ?_
  refine z_get O (fk := 2) (fun x h => zI x (zu_RJx4a65c x h)) rfl (by decide) (zI _ zm0_45) dJx4a65c_clear_da8c8_16 (wU_s) rfl ?_
  refine z_istore_n O dJx4a65c_clear_da8c8_19 (by decide) ?_
  refine z_aload_n O dJx4a65c_clear_da8c8_20 rfl ?_
  refine z_iconst O dJx4a65c_clear_da8c8_21 (v := 0) (by decide) ?_
  refine z_dup_x1 O dJx4a65c_clear_da8c8_22 rfl rfl ?_
  refine z_put O (fk := 2) (fun x h => zI x (zu_RJx4a65c x h)) tyJx4a65c tyJx4a65c_ok nmJx4a65c rfl (by decide) (zI _ zm0_45) rfl dJx4a65c_clear_da8c8_23 rfl rfl (wU_s) (Nat.le_of_ble_eq_true rfl) (wU_eq) ?_
  refine z_istore_n O dJx4a65c_clear_da8c8_26 (by decide) ?_
  refine z_iload_n O dJx4a65c_clear_da8c8_27 rfl ?_
  refine z_iload_n O dJx4a65c_clear_da8c8_28 rfl ?_
  refine z_icmp_ge O dJx4a65c_clear_da8c8_29 (tgt := 42) (by decide) (fun _ => ?_) (fun h => absurd (show (0 : Int32) ≤ 0 by decide) h)
  exact z_vret O dJx4a65c_clear_da8c8_42 (Nat.le_of_ble_eq_true rfl) (Nat.le_of_ble_eq_true rfl) ⟨rfl, by rw [wU_wU]; rfl, rfl⟩

set_option maxRecDepth 100000 in
set_option maxHeartbeats 4000000 in
theorem c_Jxa1e45_init_da8c8 {G : zG} {l : Launch} (hl : l.stackTraces = false) {w : zH} {ad : Nat → Nat} {a : Nat} : zCt G l yJxa1e45_init_da8c8 (zws yJxa1e45_init_da8c8 cJxa1e45_init_da8c8 1 none) ({ frames := 1, cells := 0, slots := 0, locals := 20 }) [.ref (ad a)] (w) ad (fun r w1 ad1 => none = r ∧ w = w1 ∧ ad = ad1) (zNoX) := by
  refine z_body hl (by decide +kernel) (Nat.le_of_ble_eq_true rfl) (fun X O => ?_)
  refine z_aload_n O dJxa1e45_init_da8c8_0 rfl ?_
  refine z_objInit O zI zm0_16 zm0_2 zm0_3 dJxa1e45_init_da8c8_1 (Nat.le_of_ble_eq_true rfl) (Nat.le_of_ble_eq_true rfl) ?_
  exact z_vret O dJxa1e45_init_da8c8_4 (Nat.le_of_ble_eq_true rfl) (Nat.le_of_ble_eq_true rfl) ⟨rfl, rfl, rfl⟩

set_option maxRecDepth 100000 in
set_option maxHeartbeats 4000000 in
theorem c_Jxc12de_init_da8c8 {G : zG} {l : Launch} (hl : l.stackTraces = false) {w : zH} {ad : Nat → Nat} {a : Nat} {m0 n : Int32} {v : Value} (hw : w a = some (zLs m0 v n)) : zCt G l yJxc12de_init_da8c8 (zws yJxc12de_init_da8c8 cJxc12de_init_da8c8 1 none) ({ frames := 2, cells := 0, slots := 0, locals := 40 }) [.ref (ad a)] (w) ad (fun r w1 ad1 => none = r ∧ wU w a (zLs 0 v n) = w1 ∧ ad = ad1) (zNoX) := by
  refine z_body hl (by decide +kernel) (Nat.le_of_ble_eq_true rfl) (fun X O => ?_)
  refine z_aload_n O dJxc12de_init_da8c8_0 rfl ?_
  refine z_callI O (c_Jxa1e45_init_da8c8 hl) zI zm0_19 zm0_20 zm0_21 zm0_15 rfl ⟨by decide +kernel, by decide +kernel, (show _ = some 0 by decide +kernel)⟩ ⟨Nat.le_of_ble_eq_true rfl, Nat.le_of_ble_eq_true rfl⟩ ⟨Nat.le_of_ble_eq_true rfl, Nat.le_of_ble_eq_true rfl⟩ dJxc12de_init_da8c8_1 rfl (Nat.le_of_ble_eq_true rfl) (fun r w1 ad1 hp => ?_)
  obtain ⟨rfl, rfl, rfl⟩ := hp
  refine z_aload_n O dJxc12de_init_da8c8_4 rfl ?_
  refine z_iconst O dJxc12de_init_da8c8_5 (v := 0) (by decide) ?_
  refine z_put O (fk := 0) (fun x h => zI x (zu_RJx4a65c x h)) tyJx4a65c tyJx4a65c_ok nmJx4a65c rfl (by decide) (zI _ zm0_18) rfl dJxc12de_init_da8c8_6 rfl rfl hw (Nat.le_of_ble_eq_true rfl) wU_eq ?_
  exact z_vret O dJxc12de_init_da8c8_9 (Nat.le_of_ble_eq_true rfl) (Nat.le_of_ble_eq_true rfl) ⟨rfl, rfl, rfl⟩

set_option maxRecDepth 100000 in
set_option maxHeartbeats 4000000 in
theorem c_Jx4a65c_init_da8c8 {G : zG} {l : Launch} (hl : l.stackTraces = false) {w : zH} {ad : Nat → Nat} {a : Nat} {m0 n : Int32} {v : Value} (hw : w a = some (zLs m0 v n)) : zCt G l yJx4a65c_init_da8c8 (zws yJx4a65c_init_da8c8 cJx4a65c_init_da8c8 1 none) ({ frames := 3, cells := 0, slots := 0, locals := 60 }) [.ref (ad a)] (w) ad (fun r w1 ad1 => none = r ∧ wU w a (zLs 0 (.ref G.2.2.2.1) n) = w1 ∧ ad = ad1) (zNoX) := by
  refine z_body hl (by decide +kernel) (Nat.le_of_ble_eq_true rfl) (fun X O => ?_)
  refine z_aload_n O dJx4a65c_init_da8c8_0 rfl ?_
  refine z_callI O (c_Jxc12de_init_da8c8 hl hw) zI zm0_25 zm0_26 zm0_27 zm0_17 rfl ⟨by decide +kernel, by decide +kernel, (show _ = some 0 by decide +kernel)⟩ ⟨Nat.le_of_ble_eq_true rfl, Nat.le_of_ble_eq_true rfl⟩ ⟨Nat.le_of_ble_eq_true rfl, Nat.le_of_ble_eq_true rfl⟩ dJx4a65c_init_da8c8_1 rfl (Nat.le_of_ble_eq_true rfl) (fun r w1 ad1 hp => ?_)
  obtain ⟨rfl, rfl, rfl⟩ := hp
  refine z_aload_n O dJx4a65c_init_da8c8_4 rfl ?_
  refine z_empty O (zI _ zm0_23) dJx4a65c_init_da8c8_5 ?_
  refine z_put O (fk := 1) (fun x h => zI x (zu_RJx4a65c x h)) tyJx4a65c tyJx4a65c_ok nmJx4a65c rfl (by decide) (zI _ zm0_24) rfl dJx4a65c_init_da8c8_8 rfl rfl (wU_s) (Nat.le_of_ble_eq_true rfl) (wU_eq) ?_
  exact z_vret O dJx4a65c_init_da8c8_11 (Nat.le_of_ble_eq_true rfl) (Nat.le_of_ble_eq_true rfl) ⟨rfl, by rw [wU_wU]; rfl, rfl⟩
end
section
/-- two worlds alike at a cell -/
theorem zeq_gen {Z Z' : zM} {sb sb' : Nat → Option Nat} {mcn mcn' : Nat → Int32} {cp cp' : Nat → Nat} {e0 : Nat} {Y Y' : zM} {th th' : Int32} {o o' : Nat → Int64} {od od' : Nat → UInt64} {ad ad' : Nat → Nat} (j : Nat)
    (hX : j = 0 → eX Z' ad' = eX Z ad) (hH : j = 1 → eHouse Z' ad' = eHouse Z ad) (hA : j = 2 → eArr ad' = eArr ad) (hT : j = 3 → eTr ad' = eTr ad) (hE : j = 4 → eEv Z' ad' = eEv Z ad)
    (hLs : ∀ i, i < 3 → j = 5 + i → eList Z' mcn' cp' e0 ad' i = eList Z mcn cp e0 ad i) (hLa : ∀ i, i < 3 → j = 8 + i → (cp' i = 0 ↔ cp i = 0) ∧ (cp i ≠ 0 → eLArr Z' cp' ad' i = eLArr Z cp ad i))
    (hS : ∀ b, b < 80 → j = 100 + b → sSeat Z' ad' b = sSeat Z ad b)
    (hHd : ∀ b, b < 20 → j = 200 + b → (b < zN Z' 0 ↔ b < zN Z 0) ∧ (b < zN Z 0 → sHand Z' sb' ad' b = sHand Z sb ad b)) (hSg : ∀ b, b < 20 → j = 220 + b → (b < zN Z' 1 ↔ b < zN Z 1) ∧ (b < zN Z 1 → sSinger Z' b = sSinger Z b)) (hCu : ∀ b, b < 20 → j = 240 + b → (b < zN Z' 2 ↔ b < zN Z 2) ∧ (b < zN Z 2 → sCue Z' ad' b = sCue Z ad b))
    (hD : 300 ≤ j → zD Y' th' o' od' ad' j = zD Y th o od ad j) : zent Z' sb' mcn' cp' e0 Y' th' o' od' ad' j = zent Z sb mcn cp e0 Y th o od ad j := by
  by_cases h : j < 300
  · simp only [zent, if_pos h, zC]
    by_cases h1 : j < 100
    · rw [if_pos h1, if_pos h1]
      by_cases j0 : j = 0
      · rw [if_pos j0, if_pos j0, hX j0]
      rw [if_neg j0, if_neg j0]
      by_cases j1 : j = 1
      · rw [if_pos j1, if_pos j1, hH j1]
      rw [if_neg j1, if_neg j1]
      by_cases j2 : j = 2
      · rw [if_pos j2, if_pos j2, hA j2]
      rw [if_neg j2, if_neg j2]
      by_cases j3 : j = 3
      · rw [if_pos j3, if_pos j3, hT j3]
      rw [if_neg j3, if_neg j3]
      by_cases j4 : j = 4
      · rw [if_pos j4, if_pos j4, hE j4]
      rw [if_neg j4, if_neg j4]
      by_cases j8 : j < 8
      · rw [if_pos j8, if_pos j8, hLs (j - 5) (by omega) (by omega)]
      rw [if_neg j8, if_neg j8]
      by_cases j11 : j < 11
      · rw [if_pos j11, if_pos j11]
        obtain ⟨a1, a2⟩ := hLa (j - 8) (by omega) (by omega)
        by_cases c0 : cp (j - 8) = 0
        · rw [if_pos c0, if_pos (a1.mpr c0)]
        · rw [if_neg c0, if_neg (fun q => c0 (a1.mp q)), a2 c0]
      rw [if_neg j11, if_neg j11]
    · rw [if_neg h1, if_neg h1]
      by_cases h2 : j < 180
      · rw [if_pos h2, if_pos h2, hS (j - 100) (by omega) (by omega)]
      rw [if_neg h2, if_neg h2]
      by_cases h3 : j < 200
      · rw [if_pos h3, if_pos h3]
      rw [if_neg h3, if_neg h3]
      by_cases h4 : j < 220
      · rw [if_pos h4, if_pos h4]
        obtain ⟨a1, a2⟩ := hHd (j - 200) (by omega) (by omega)
        by_cases c0 : j - 200 < zN Z 0
        · rw [if_pos c0, if_pos (a1.mpr c0), a2 c0]
        · rw [if_neg c0, if_neg (fun q => c0 (a1.mp q))]
      rw [if_neg h4, if_neg h4]
      by_cases h5 : j < 240
      · rw [if_pos h5, if_pos h5]
        obtain ⟨a1, a2⟩ := hSg (j - 220) (by omega) (by omega)
        by_cases c0 : j - 220 < zN Z 1
        · rw [if_pos c0, if_pos (a1.mpr c0), a2 c0]
        · rw [if_neg c0, if_neg (fun q => c0 (a1.mp q))]
      rw [if_neg h5, if_neg h5]
      by_cases h6 : j < 260
      · rw [if_pos h6, if_pos h6]
        obtain ⟨a1, a2⟩ := hCu (j - 240) (by omega) (by omega)
        by_cases c0 : j - 240 < zN Z 2
        · rw [if_pos c0, if_pos (a1.mpr c0), a2 c0]
        · rw [if_neg c0, if_neg (fun q => c0 (a1.mp q))]
      rw [if_neg h6, if_neg h6]
  · simp only [zent, if_neg h]
    exact hD (by omega)
/-- the list of cues is cleared: what is seen of the world behind it -/
theorem zw_clear {Z : zM} {sb : Nat → Option Nat} {mcn : Nat → Int32} {cp : Nat → Nat} {e0 : Nat} {Y : zM} {th : Int32} {o : Nat → Int64} {od : Nat → UInt64} {ad : Nat → Nat} {w : zH}
    (h7 : w 7 = some (zLs (mcn 2 + 1) (.ref (if cp 2 = 0 then e0 else ad 10)) 0)) (h10 : cp 2 ≠ 0 → w 10 = some (zAr (cp 2) (fun _ => none))) (hw : ∀ j, j ≠ 7 → j ≠ 10 → w j = zent Z sb mcn cp e0 Y th o od ad j) :
    ∀ j e, zent (zu Z 27 0 0) sb (va_up mcn 2 (mcn 2 + 1)) cp e0 Y th o od ad j = some e → w j = some e := by
  intro j e he
  have hN2 : zN (zu Z 27 0 0) 2 = 0 := by simp [zN, zu]
  by_cases j7 : j = 7
  · subst j7
    rw [h7, ← he]
    show _ = some (eList (zu Z 27 0 0) (va_up mcn 2 (mcn 2 + 1)) cp e0 ad 2)
    unfold eList zLs
    rw [zup_s, show zu Z 27 0 0 (25 + 2) 0 = 0 by simp [zu]]
  by_cases j10 : j = 10
  · subst j10
    by_cases c0 : cp 2 = 0
    · exfalso
      have hz : zent (zu Z 27 0 0) sb (va_up mcn 2 (mcn 2 + 1)) cp e0 Y th o od ad 10 = none := by simp [zent, zC, c0]
      rw [hz] at he; cases he
    · rw [h10 c0, ← he]
      show _ = zent _ _ _ _ _ _ _ _ _ _ (8 + 2)
      rw [zg_larr (by decide) c0]
      unfold eLArr zAr
      rw [hN2]
      simp
  rw [hw j j7 j10, ← he]
  by_cases hc : 240 ≤ j ∧ j < 260
  · exfalso
    have hz : zent (zu Z 27 0 0) sb (va_up mcn 2 (mcn 2 + 1)) cp e0 Y th o od ad j = none := by
      simp only [zent, zC]
      rw [if_pos (by omega), if_neg (by omega), if_neg (by omega), if_neg (by omega), if_neg (by omega), if_neg (by omega), if_pos (by omega), hN2, if_neg (by omega)]
    rw [hz] at he; cases he
  · have hN : ∀ a, a < 2 → zN (zu Z 27 0 0) a = zN Z a := fun a ha => by
      have : 25 + a ≠ 27 := by omega
      simp [zN, zu, this]
    refine (zeq_gen j (fun _ => by simp [eX, zu]) (fun _ => by simp [eHouse, zu]) (fun _ => rfl) (fun _ => rfl) (fun _ => by simp [eEv, zu]) (fun i hi e9 => ?_) (fun i hi e9 => ?_) (fun b hb e9 => by simp [sSeat, zu]) (fun b hb e9 => ⟨by rw [hN 0 (by decide)], fun _ => by simp [sHand, zu]⟩) (fun b hb e9 => ⟨by rw [hN 1 (by decide)], fun _ => by simp [sSinger, zu]⟩) (fun b hb e9 => absurd e9 (by omega)) (fun _ => rfl)).symm
    · have hi2 : i ≠ 2 := by omega
      have : 25 + i ≠ 27 := by omega
      unfold eList
      rw [zup_n hi2, zu_f this]
    · have hi2 : i < 2 := by omega
      refine ⟨Iff.rfl, fun _ => ?_⟩
      unfold eLArr
      rw [hN i hi2]
end
section
/-- a list of the world: how many, within what its row can hold -/
def zLst (Z : zM) (cp : Nat → Nat) (i : Nat) : Prop := Z (25 + i) 0 = nI (zN Z i) ∧ zN Z i ≤ cp i ∧ cp i ≤ 15 ∧ zN Z i ≤ 12
section ZLT
variable {Z : zM} {sb : Nat → Option Nat} {mcn : Nat → Int32} {cp : Nat → Nat} {e0 : Nat} {Y : zM} {th : Int32} {o : Nat → Int64} {od : Nat → UInt64} {ad : Nat → Nat}
theorem zg_list0 {i : Nat} (h : i < 3) (hL : zLst Z cp i) : zent Z sb mcn cp e0 Y th o od ad (5 + i) = some (zLs (mcn i) (.ref (if cp i = 0 then e0 else ad (8 + i))) (nI (zN Z i))) := by
  rw [zg_list h]
  unfold eList zLs
  rw [hL.1]
theorem zg_list1 {i : Nat} (h : i < 3) (hL : zLst Z cp i) (hc : cp i ≠ 0) : zent Z sb mcn cp e0 Y th o od ad (5 + i) = some (zLs (mcn i) (.ref (ad (8 + i))) (nI (zN Z i))) := by
  rw [zg_list0 h hL, if_neg hc]
end ZLT
/-- a walk may use what is true of addresses -/
theorem zV.inj {G : zG} {X : zXT} {nL kc ks pc : Nat} {lsv : List (Nat × Value)} {st : List Value} {w : zH} {ad : Nat → Nat} {i j : Nat} (hi : w i ≠ none) (hj : w j ≠ none) (k : (ad i = ad j → i = j) → zV G X nL kc ks pc lsv st w ad) : zV G X nL kc ks pc lsv st w ad := fun H lsA hR hL => k (hR.2 i j hi hj) H lsA hR hL
theorem c_get_hand {G : zG} {l : Launch} (hl : l.stackTraces = false) {Z : zM} {sb : Nat → Option Nat} {mcn : Nat → Int32} {cp : Nat → Nat} {Y : zM} {th : Int32} {o : Nat → Int64} {od : Nat → UInt64} {ad : Nat → Nat} {k : Nat} (hL : zLst Z cp 0) (hk : k < zN Z 0) : zCt G l yJx4a65c_get_915e3 (zws yJx4a65c_get_915e3 cJx4a65c_get_915e3 2 (some (.object "java/lang/Object"))) ({ frames := 2, cells := 0, slots := 0, locals := 43 }) [.ref (ad 5), .int (nI k)] (zent Z sb mcn cp G.2.2.2.1 Y th o od ad) ad (fun r w1 ad1 => some (.ref (ad (200 + k))) = r ∧ zent Z sb mcn cp G.2.2.2.1 Y th o od ad = w1 ∧ ad = ad1) zNoX := by
  have hc : cp 0 ≠ 0 := by have := hL.2.1; omega
  refine (c_Jx4a65c_get_915e3 hl (zg_list1 (i := 0) (by decide) hL hc) (b := 8) (zg_larr (i := 0) (by decide) hc) hk hL.2.1 (by have := hL.2.2.1; omega)).post (fun r w1 ad1 h => ?_) (fun _ _ _ h => h)
  obtain ⟨h1, h2, h3⟩ := h
  refine ⟨?_, h2, h3⟩
  rw [← h1]
  show _ = some (va_rf (if k < zN Z 0 then some (ad (200 + 20 * 0 + k)) else none))
  rw [if_pos hk]
  rfl
theorem c_get_singer {G : zG} {l : Launch} (hl : l.stackTraces = false) {Z : zM} {sb : Nat → Option Nat} {mcn : Nat → Int32} {cp : Nat → Nat} {Y : zM} {th : Int32} {o : Nat → Int64} {od : Nat → UInt64} {ad : Nat → Nat} {k : Nat} (hL : zLst Z cp 1) (hk : k < zN Z 1) : zCt G l yJx4a65c_get_915e3 (zws yJx4a65c_get_915e3 cJx4a65c_get_915e3 2 (some (.object "java/lang/Object"))) ({ frames := 2, cells := 0, slots := 0, locals := 43 }) [.ref (ad 6), .int (nI k)] (zent Z sb mcn cp G.2.2.2.1 Y th o od ad) ad (fun r w1 ad1 => some (.ref (ad (220 + k))) = r ∧ zent Z sb mcn cp G.2.2.2.1 Y th o od ad = w1 ∧ ad = ad1) zNoX := by
  have hc : cp 1 ≠ 0 := by have := hL.2.1; omega
  refine (c_Jx4a65c_get_915e3 hl (zg_list1 (i := 1) (by decide) hL hc) (b := 9) (zg_larr (i := 1) (by decide) hc) hk hL.2.1 (by have := hL.2.2.1; omega)).post (fun r w1 ad1 h => ?_) (fun _ _ _ h => h)
  obtain ⟨h1, h2, h3⟩ := h
  refine ⟨?_, h2, h3⟩
  rw [← h1]
  show _ = some (va_rf (if k < zN Z 1 then some (ad (200 + 20 * 1 + k)) else none))
  rw [if_pos hk]
  rfl
theorem c_get_cue {G : zG} {l : Launch} (hl : l.stackTraces = false) {Z : zM} {sb : Nat → Option Nat} {mcn : Nat → Int32} {cp : Nat → Nat} {Y : zM} {th : Int32} {o : Nat → Int64} {od : Nat → UInt64} {ad : Nat → Nat} {k : Nat} (hL : zLst Z cp 2) (hk : k < zN Z 2) : zCt G l yJx4a65c_get_915e3 (zws yJx4a65c_get_915e3 cJx4a65c_get_915e3 2 (some (.object "java/lang/Object"))) ({ frames := 2, cells := 0, slots := 0, locals := 43 }) [.ref (ad 7), .int (nI k)] (zent Z sb mcn cp G.2.2.2.1 Y th o od ad) ad (fun r w1 ad1 => some (.ref (ad (240 + k))) = r ∧ zent Z sb mcn cp G.2.2.2.1 Y th o od ad = w1 ∧ ad = ad1) zNoX := by
  have hc : cp 2 ≠ 0 := by have := hL.2.1; omega
  refine (c_Jx4a65c_get_915e3 hl (zg_list1 (i := 2) (by decide) hL hc) (b := 10) (zg_larr (i := 2) (by decide) hc) hk hL.2.1 (by have := hL.2.2.1; omega)).post (fun r w1 ad1 h => ?_) (fun _ _ _ h => h)
  obtain ⟨h1, h2, h3⟩ := h
  refine ⟨?_, h2, h3⟩
  rw [← h1]
  show _ = some (va_rf (if k < zN Z 2 then some (ad (200 + 20 * 2 + k)) else none))
  rw [if_pos hk]
  rfl
theorem c_size_l {G : zG} {l : Launch} (hl : l.stackTraces = false) {Z : zM} {sb : Nat → Option Nat} {mcn : Nat → Int32} {cp : Nat → Nat} {Y : zM} {th : Int32} {o : Nat → Int64} {od : Nat → UInt64} {ad : Nat → Nat} {i : Nat} (hi : i < 3) (hL : zLst Z cp i) : zCt G l yJx4a65c_size_8abf5 (zws yJx4a65c_size_8abf5 cJx4a65c_size_8abf5 1 (some .int)) ({ frames := 0, cells := 0, slots := 0, locals := 0 }) [.ref (ad (5 + i))] (zent Z sb mcn cp G.2.2.2.1 Y th o od ad) ad (fun r w1 ad1 => some (.int (nI (zN Z i))) = r ∧ zent Z sb mcn cp G.2.2.2.1 Y th o od ad = w1 ∧ ad = ad1) zNoX := c_Jx4a65c_size_8abf5 hl (zg_list0 hi hL)
def fLastTick (Z : zM) (c : Nat) : Int32 := Z 20 c + Z 22 c - 1
abbrev fOn (Z : zM) (c : Nat) (t : Int32) : Prop := Z 20 c ≤ t ∧ t ≤ fLastTick Z c
abbrev fFollows (Z : zM) (j c : Nat) : Prop := Z 9 j = 97 ∨ Z 9 j = Z 10 c
set_option maxRecDepth 100000 in
set_option maxHeartbeats 4000000 in
theorem c_X0_lastTick {G : zG} {l : Launch} (hl : l.stackTraces = false) {Z : zM} {sb : Nat → Option Nat} {mcn : Nat → Int32} {cp : Nat → Nat} {Y : zM} {th : Int32} {o : Nat → Int64} {od : Nat → UInt64} {ad : Nat → Nat} {k : Nat} (hk : k < zN Z 2) (hk2 : k < 20) : zCt G l yX0_lastTick (zws yX0_lastTick cX0_lastTick 1 (some .int)) ({ frames := 0, cells := 0, slots := 0, locals := 0 }) [.ref (ad (240 + k))] (zent Z sb mcn cp G.2.2.2.1 Y th o od ad) ad (fun r w1 ad1 => some (.int (fLastTick Z k)) = r ∧ zent Z sb mcn cp G.2.2.2.1 Y th o od ad = w1 ∧ ad = ad1) (zNoX) := by
  refine z_body hl (by decide +kernel) (Nat.le_of_ble_eq_true rfl) (fun X O => ?_)
  refine z_aload_n O dX0_lastTick_0 rfl ?_
  refine z_get O (fk := 2) (fun x h => zI x (zu_RX0 x h)) rfl (by decide) (zI _ zm0_6) dX0_lastTick_1 (zg_cue hk hk2) rfl ?_
  refine z_aload_n O dX0_lastTick_4 rfl ?_
  refine z_get O (fk := 4) (fun x h => zI x (zu_RX0 x h)) rfl (by decide) (zI _ zm0_8) dX0_lastTick_5 (zg_cue hk hk2) rfl ?_
  refine z_iadd O dX0_lastTick_8 ?_
  refine z_iconst O dX0_lastTick_9 (v := 1) (by decide) ?_
  refine z_isub O dX0_lastTick_10 ?_
  exact z_iret O dX0_lastTick_11 (Nat.le_of_ble_eq_true rfl) (Nat.le_of_ble_eq_true rfl) (⟨rfl, rfl, rfl⟩)

set_option maxRecDepth 100000 in
set_option maxHeartbeats 4000000 in
theorem c_X0_isOnIn {G : zG} {l : Launch} (hl : l.stackTraces = false) {Z : zM} {sb : Nat → Option Nat} {mcn : Nat → Int32} {cp : Nat → Nat} {Y : zM} {th : Int32} {o : Nat → Int64} {od : Nat → UInt64} {ad : Nat → Nat} {k : Nat} (hk : k < zN Z 2) (hk2 : k < 20) {t : Int32} : zCt G l yX0_isOnIn (zws yX0_isOnIn cX0_isOnIn 2 (some .boolean)) ({ frames := 1, cells := 0, slots := 0, locals := 20 }) [.ref (ad (240 + k)), .int t] (zent Z sb mcn cp G.2.2.2.1 Y th o od ad) ad (fun r w1 ad1 => (some (.int 1) = r ∧ fOn Z k t ∧ zent Z sb mcn cp G.2.2.2.1 Y th o od ad = w1 ∧ ad = ad1) ∨ (some (.int 0) = r ∧ ¬ fOn Z k t ∧ zent Z sb mcn cp G.2.2.2.1 Y th o od ad = w1 ∧ ad = ad1)) (zNoX) := by
  refine z_body hl (by decide +kernel) (Nat.le_of_ble_eq_true rfl) (fun X O => ?_)
  refine z_aload_n O dX0_isOnIn_0 rfl ?_
  refine z_get O (fk := 2) (fun x h => zI x (zu_RX0 x h)) rfl (by decide) (zI _ zm0_6) dX0_isOnIn_1 (zg_cue hk hk2) rfl ?_
  refine z_iload_n O dX0_isOnIn_4 rfl ?_
  refine z_icmp_gt O dX0_isOnIn_5 (tgt := 20) (by decide) (fun h => ?_) (fun h => ?_)
  · refine z_iconst O dX0_isOnIn_20 (v := 0) (by decide) ?_
    exact z_zret O rfl rfl dX0_isOnIn_21 (Nat.le_of_ble_eq_true rfl) (Nat.le_of_ble_eq_true rfl) (Or.inr ⟨rfl, fun q => absurd q.1 (Int32.not_le.mpr h), rfl, rfl⟩)
  · refine z_iload_n O dX0_isOnIn_8 rfl ?_
    refine z_aload_n O dX0_isOnIn_9 rfl ?_
    refine z_callV O (c_X0_lastTick hl hk hk2) zI zm0_11 zm0_12 zm0_13 zm0_14 zm0_9 ⟨rfl, by decide +kernel, by decide +kernel, (show _ = some 0 by decide +kernel)⟩ rfl (zg_cue hk hk2) ⟨Nat.le_of_ble_eq_true rfl, Nat.le_of_ble_eq_true rfl⟩ ⟨Nat.le_of_ble_eq_true rfl, Nat.le_of_ble_eq_true rfl⟩ dX0_isOnIn_10 rfl (Nat.le_of_ble_eq_true rfl) (fun _ _ _ h => h.elim) (fun r w1 ad1 hp => ?_)
    obtain ⟨rfl, rfl, rfl⟩ := hp
    refine z_icmp_gt O dX0_isOnIn_13 (tgt := 20) (by decide) (fun h2 => ?_) (fun h2 => ?_)
    · refine z_iconst O dX0_isOnIn_20 (v := 0) (by decide) ?_
      exact z_zret O rfl rfl dX0_isOnIn_21 (Nat.le_of_ble_eq_true rfl) (Nat.le_of_ble_eq_true rfl) (Or.inr ⟨rfl, fun q => absurd q.2 (Int32.not_le.mpr h2), rfl, rfl⟩)
    · refine z_iconst O dX0_isOnIn_16 (v := 1) (by decide) ?_
      refine z_goto O dX0_isOnIn_17 (tgt := 21) (by decide) ?_
      exact z_zret O rfl rfl dX0_isOnIn_21 (Nat.le_of_ble_eq_true rfl) (Nat.le_of_ble_eq_true rfl) (Or.inl ⟨rfl, ⟨Int32.not_lt.mp h, Int32.not_lt.mp h2⟩, rfl, rfl⟩)

set_option maxRecDepth 100000 in
set_option maxHeartbeats 4000000 in
theorem c_X2_parts {G : zG} {l : Launch} (hl : l.stackTraces = false) {Z : zM} {sb : Nat → Option Nat} {mcn : Nat → Int32} {cp : Nat → Nat} {Y : zM} {th : Int32} {o : Nat → Int64} {od : Nat → UInt64} {ad : Nat → Nat} {j : Nat} (hj : j < zN Z 0) (hj2 : j < 20) : zCt G l yX2_parts (zws yX2_parts cX2_parts 1 (some .int)) ({ frames := 0, cells := 0, slots := 0, locals := 0 }) [.ref (ad (200 + j))] (zent Z sb mcn cp G.2.2.2.1 Y th o od ad) ad (fun r w1 ad1 => some (.int (Z 12 j + 1)) = r ∧ zent Z sb mcn cp G.2.2.2.1 Y th o od ad = w1 ∧ ad = ad1) (zNoX) := by
  refine z_body hl (by decide +kernel) (Nat.le_of_ble_eq_true rfl) (fun X O => ?_)
  refine z_aload_n O dX2_parts_0 rfl ?_
  refine z_get O (fk := 2) (fun x h => zI x (zu_RX2 x h)) rfl (by decide) (zI _ zm2_45) dX2_parts_1 (zg_hand hj hj2) rfl ?_
  refine z_iconst O dX2_parts_4 (v := 1) (by decide) ?_
  refine z_iadd O dX2_parts_5 ?_
  exact z_iret O dX2_parts_6 (Nat.le_of_ble_eq_true rfl) (Nat.le_of_ble_eq_true rfl) (⟨rfl, rfl, rfl⟩)

set_option maxRecDepth 100000 in
set_option maxHeartbeats 4000000 in
theorem c_X2_follows {G : zG} {l : Launch} (hl : l.stackTraces = false) {Z : zM} {sb : Nat → Option Nat} {mcn : Nat → Int32} {cp : Nat → Nat} {Y : zM} {th : Int32} {o : Nat → Int64} {od : Nat → UInt64} {ad : Nat → Nat} {j : Nat} (hj : j < zN Z 0) (hj2 : j < 20) {k : Nat} (hk : k < zN Z 2) (hk2 : k < 20) : zCt G l yX2_follows (zws yX2_follows cX2_follows 2 (some .boolean)) ({ frames := 0, cells := 0, slots := 0, locals := 0 }) [.ref (ad (200 + j)), .ref (ad (240 + k))] (zent Z sb mcn cp G.2.2.2.1 Y th o od ad) ad (fun r w1 ad1 => (some (.int 1) = r ∧ fFollows Z j k ∧ zent Z sb mcn cp G.2.2.2.1 Y th o od ad = w1 ∧ ad = ad1) ∨ (some (.int 0) = r ∧ ¬ fFollows Z j k ∧ zent Z sb mcn cp G.2.2.2.1 Y th o od ad = w1 ∧ ad = ad1)) (zNoX) := by
  refine z_body hl (by decide +kernel) (Nat.le_of_ble_eq_true rfl) (fun X O => ?_)
  refine z_aload_n O dX2_follows_0 rfl ?_
  refine z_get O (fk := 0) (fun x h => zI x (zu_RX2 x h)) rfl (by decide) (zI _ zm1_34) dX2_follows_1 (zg_hand hj hj2) rfl ?_
  refine z_bipush O dX2_follows_4 (v := 97) (by decide) ?_
  refine z_icmp_eq O dX2_follows_6 (tgt := 20) (by decide) (fun h => ?_) (fun h => ?_)
  · refine z_iconst O dX2_follows_20 (v := 1) (by decide) ?_
    refine z_goto O dX2_follows_21 (tgt := 25) (by decide) ?_
    exact z_zret O rfl rfl dX2_follows_25 (Nat.le_of_ble_eq_true rfl) (Nat.le_of_ble_eq_true rfl) (Or.inl ⟨rfl, Or.inl h, rfl, rfl⟩)
  · refine z_aload_n O dX2_follows_9 rfl ?_
    refine z_get O (fk := 0) (fun x h => zI x (zu_RX2 x h)) rfl (by decide) (zI _ zm1_34) dX2_follows_10 (zg_hand hj hj2) rfl ?_
    refine z_aload_n O dX2_follows_13 rfl ?_
    refine z_get O (fk := 1) (fun x h => zI x (zu_RX0 x h)) rfl (by decide) (zI _ zm1_35) dX2_follows_14 (zg_cue hk hk2) rfl ?_
    refine z_icmp_ne O dX2_follows_17 (tgt := 24) (by decide) (fun h2 => ?_) (fun h2 => ?_)
    · refine z_iconst O dX2_follows_24 (v := 0) (by decide) ?_
      exact z_zret O rfl rfl dX2_follows_25 (Nat.le_of_ble_eq_true rfl) (Nat.le_of_ble_eq_true rfl) (Or.inr ⟨rfl, fun q => q.elim h h2, rfl, rfl⟩)
    · refine z_iconst O dX2_follows_20 (v := 1) (by decide) ?_
      refine z_goto O dX2_follows_21 (tgt := 25) (by decide) ?_
      exact z_zret O rfl rfl dX2_follows_25 (Nat.le_of_ble_eq_true rfl) (Nat.le_of_ble_eq_true rfl) (Or.inl ⟨rfl, Or.inr h2, rfl, rfl⟩)
end
section
def fForce (Z : zM) (j : Nat) : Nat → Int32
  | 0 => 0
  | c + 1 => if fOn Z c (Z 29 0) ∧ fFollows Z j c then fMax (fForce Z j c) (Z 21 c) else fForce Z j c
def fNoise (Z : zM) (j : Nat) : Int32 := if Z 33 0 < 3 then fMin 9 (Z 11 j * fForce Z j (zN Z 2)) else 0
def fLast (Z : zM) : Nat → Option Nat
  | 0 => none
  | c + 1 => if Z 20 c ≤ Z 29 0 then (match fLast Z c with | none => some c | some b => if Z 20 c < Z 20 b then some b else some c) else fLast Z c
theorem fLast_lt {Z : zM} : ∀ {n b : Nat}, fLast Z n = some b → b < n
  | 0, _, h => by cases h
  | n + 1, b, h => by
    unfold fLast at h
    by_cases q : Z 20 n ≤ Z 29 0
    · rw [if_pos q] at h
      cases hb : fLast Z n with
      | none => rw [hb] at h; cases h; omega
      | some d =>
        rw [hb] at h
        have := fLast_lt hb
        dsimp only at h
        by_cases q2 : Z 20 n < Z 20 d
        · rw [if_pos q2] at h; cases h; omega
        · rw [if_neg q2] at h; cases h; omega
    · rw [if_neg q] at h
      have := fLast_lt h
      omega
def fCalled (Z : zM) : zM := match fLast Z (zN Z 2) with
  | none => Z
  | some c => zu Z 18 (Z 19 c).toNatClampNeg (Z 18 (Z 19 c).toNatClampNeg + 1)
def fHear (Z : zM) (s : Int32) : zM := if s < Z 28 0 then zu Z 30 0 0 else if Z 30 0 + 1 < 5 then zu Z 30 0 (Z 30 0 + 1) else fCalled (zu (zu (zu Z 30 0 (Z 30 0 + 1)) 30 0 0) 31 0 (Z 31 0 + 1))
def fJ (Z : zM) : Nat → Int32
  | 0 => Z 33 0
  | c + 1 => if fLastTick Z c = Z 29 0 then fJ Z c + 1 else fJ Z c
def fJudge (Z : zM) (p h : Int32) : zM := if p < h then zu Z 33 0 (fJ Z (zN Z 2)) else Z
def fSang (Z : zM) (k : Nat) : Nat → Bool
  | 0 => false
  | c + 1 => fSang Z k c || (decide ((Z 19 c).toNatClampNeg = k) && decide (Z 20 c < Z 29 0))
set_option maxRecDepth 100000 in
set_option maxHeartbeats 4000000 in
theorem c_X1_handsAreFoundOut {G : zG} {l : Launch} (hl : l.stackTraces = false) {Z : zM} {sb : Nat → Option Nat} {mcn : Nat → Int32} {cp : Nat → Nat} {Y : zM} {th : Int32} {o : Nat → Int64} {od : Nat → UInt64} {ad : Nat → Nat} : zCt G l yX1_handsAreFoundOut (zws yX1_handsAreFoundOut cX1_handsAreFoundOut 1 (some .boolean)) ({ frames := 0, cells := 0, slots := 0, locals := 0 }) [.ref (ad 4)] (zent Z sb mcn cp G.2.2.2.1 Y th o od ad) ad (fun r w1 ad1 => (some (.int 1) = r ∧ ¬ Z 33 0 < 3 ∧ zent Z sb mcn cp G.2.2.2.1 Y th o od ad = w1 ∧ ad = ad1) ∨ (some (.int 0) = r ∧ Z 33 0 < 3 ∧ zent Z sb mcn cp G.2.2.2.1 Y th o od ad = w1 ∧ ad = ad1)) (zNoX) := by
  refine z_body hl (by decide +kernel) (Nat.le_of_ble_eq_true rfl) (fun X O => ?_)
  refine z_aload_n O dX1_handsAreFoundOut_0 rfl ?_
  refine z_get O (fk := 6) (fun x h => zI x (zu_RX1 x h)) rfl (by decide) (zI _ zm0_38) dX1_handsAreFoundOut_1 (zg_ev) rfl ?_
  refine z_iconst O dX1_handsAreFoundOut_4 (v := 3) (by decide) ?_
  refine z_icmp_lt O dX1_handsAreFoundOut_5 (tgt := 12) (by decide) (fun h => ?_) (fun h => ?_)
  · refine z_iconst O dX1_handsAreFoundOut_12 (v := 0) (by decide) ?_
    exact z_zret O rfl rfl dX1_handsAreFoundOut_13 (Nat.le_of_ble_eq_true rfl) (Nat.le_of_ble_eq_true rfl) (Or.inr ⟨rfl, h, rfl, rfl⟩)
  · refine z_iconst O dX1_handsAreFoundOut_8 (v := 1) (by decide) ?_
    refine z_goto O dX1_handsAreFoundOut_9 (tgt := 13) (by decide) ?_
    exact z_zret O rfl rfl dX1_handsAreFoundOut_13 (Nat.le_of_ble_eq_true rfl) (Nat.le_of_ble_eq_true rfl) (Or.inl ⟨rfl, h, rfl, rfl⟩)

set_option maxRecDepth 100000 in
set_option maxHeartbeats 4000000 in
theorem c_X1_noiseOf {G : zG} {l : Launch} (hl : l.stackTraces = false) {Z : zM} {sb : Nat → Option Nat} {mcn : Nat → Int32} {cp : Nat → Nat} {Y : zM} {th : Int32} {o : Nat → Int64} {od : Nat → UInt64} {ad : Nat → Nat} (hL2 : zLst Z cp 2) {j : Nat} (hj : j < zN Z 0) (hj2 : j < 20) : zCt G l yX1_noiseOf (zws yX1_noiseOf cX1_noiseOf 5 (some .int)) ({ frames := 3, cells := 0, slots := 0, locals := 64 }) [.ref (ad 4), .ref (ad (200 + j))] (zent Z sb mcn cp G.2.2.2.1 Y th o od ad) ad (fun r w1 ad1 => some (.int (fNoise Z j)) = r ∧ zent Z sb mcn cp G.2.2.2.1 Y th o od ad = w1 ∧ ad = ad1) (zNoX) := by
  refine z_body hl (by decide +kernel) (Nat.le_of_ble_eq_true rfl) (fun X O => ?_)
  refine z_aload_n O dX1_noiseOf_0 rfl ?_
  refine z_callV O (c_X1_handsAreFoundOut hl) zI zm1_41 zm1_42 zm1_43 zm1_44 zm0_50 ⟨rfl, by decide +kernel, by decide +kernel, (show _ = some 0 by decide +kernel)⟩ rfl (zg_ev) ⟨Nat.le_of_ble_eq_true rfl, Nat.le_of_ble_eq_true rfl⟩ ⟨Nat.le_of_ble_eq_true rfl, Nat.le_of_ble_eq_true rfl⟩ dX1_noiseOf_1 rfl (Nat.le_of_ble_eq_true rfl) (fun _ _ _ h => h.elim) (fun r w1 ad1 hp => ?_)
  rcases hp with ⟨rfl, hf, rfl, rfl⟩ | ⟨rfl, hf, rfl, rfl⟩
  · refine z_if_eq O dX1_noiseOf_4 (tgt := 9) (by decide) (fun g => absurd g (by decide)) (fun _ => ?_)
    refine z_iconst O dX1_noiseOf_7 (v := 0) (by decide) ?_
    exact z_iret O dX1_noiseOf_8 (Nat.le_of_ble_eq_true rfl) (Nat.le_of_ble_eq_true rfl) (⟨by unfold fNoise; rw [if_neg hf], rfl, rfl⟩)
  · refine z_if_eq O dX1_noiseOf_4 (tgt := 9) (by decide) (fun _ => ?_) (fun g => absurd rfl g)
    have L : ∀ (n : Nat) (i : Nat) (acc : Int32), i ≤ zN Z 2 → zN Z 2 < i + n → acc = fForce Z j i → zV G X 5 0 0 13 [(0, .ref (ad 4)), (1, .ref (ad (200 + j))), (2, .int acc), (3, .int (nI i))] [] (zent Z sb mcn cp G.2.2.2.1 Y th o od ad) ad := by
      intro n
      induction n with
      | zero => intro i acc h1 h2 hacc; omega
      | succ n ih =>
        intro i acc h1 h2 hacc
        refine z_iload_n O dX1_noiseOf_13 rfl ?_
        refine z_aload_n O dX1_noiseOf_14 rfl ?_
        refine z_get O (fk := 0) (fun x h => zI x (zu_RX1 x h)) rfl (by decide) (zI _ zm0_32) dX1_noiseOf_15 (zg_ev) rfl ?_
        refine z_callV O (c_size_l hl (i := 2) (by decide) hL2) zI zm1_45 zm1_46 zm1_47 zm0_31 zm1_19 ⟨rfl, by decide +kernel, by decide +kernel, (show _ = some 0 by decide +kernel)⟩ rfl ((zg_list0 (i := 2) (by decide) hL2)) ⟨Nat.le_of_ble_eq_true rfl, Nat.le_of_ble_eq_true rfl⟩ ⟨Nat.le_of_ble_eq_true rfl, Nat.le_of_ble_eq_true rfl⟩ dX1_noiseOf_18 rfl (Nat.le_of_ble_eq_true rfl) (fun _ _ _ h => h.elim) (fun r w1 ad1 hp => ?_)
        obtain ⟨rfl, rfl, rfl⟩ := hp
        refine z_icmp_ge O dX1_noiseOf_21 (tgt := 74) (by decide) (fun h => ?_) (fun h => ?_)
        · have hi : i = zN Z 2 := by have := z_ge_ge (by have := hL2.2.2.2; omega) (by have := hL2.2.2.2; omega) h; omega
          subst hi
          refine z_bipush O dX1_noiseOf_74 (v := 9) (by decide) ?_
          refine z_aload_n O dX1_noiseOf_76 rfl ?_
          refine z_get O (fk := 1) (fun x h => zI x (zu_RX2 x h)) rfl (by decide) (zI _ zm1_39) dX1_noiseOf_77 (zg_hand hj hj2) rfl ?_
          refine z_iload_n O dX1_noiseOf_80 rfl ?_
          refine z_imul O dX1_noiseOf_81 ?_
          refine z_mmin O zI zm1_40 zm1_10 zm1_11 zm1_12 dX1_noiseOf_82 (Nat.le_of_ble_eq_true rfl) (Nat.le_of_ble_eq_true rfl) (Nat.le_of_ble_eq_true rfl) (Nat.le_of_ble_eq_true rfl) ?_
          exact z_iret O dX1_noiseOf_85 (Nat.le_of_ble_eq_true rfl) (Nat.le_of_ble_eq_true rfl) (⟨by unfold fNoise; rw [if_pos hf, hacc]; rfl, rfl, rfl⟩)
        · have hi : i < zN Z 2 := z_ge_lt (by have := hL2.2.2.2; omega) (by have := hL2.2.2.2; omega) h
          have hi20 : i < 20 := by have := hL2.2.2.2; omega
          refine z_aload_n O dX1_noiseOf_24 rfl ?_
          refine z_get O (fk := 0) (fun x h => zI x (zu_RX1 x h)) rfl (by decide) (zI _ zm0_32) dX1_noiseOf_25 (zg_ev) rfl ?_
          refine z_iload_n O dX1_noiseOf_28 rfl ?_
          refine z_callV O (c_get_cue hl hL2 hi) zI zm1_48 zm1_49 zm1_50 zm0_31 zm1_26 ⟨rfl, by decide +kernel, by decide +kernel, (show _ = some 1 by decide +kernel)⟩ rfl ((zg_list0 (i := 2) (by decide) hL2)) ⟨Nat.le_of_ble_eq_true rfl, Nat.le_of_ble_eq_true rfl⟩ ⟨Nat.le_of_ble_eq_true rfl, Nat.le_of_ble_eq_true rfl⟩ dX1_noiseOf_29 rfl (Nat.le_of_ble_eq_true rfl) (fun _ _ _ h => h.elim) (fun r w1 ad1 hp => ?_)
          obtain ⟨rfl, rfl, rfl⟩ := hp
          refine z_cast0 O rfl (zI _ zm1_36) (zg_cue hi hi20) dX1_noiseOf_32 ?_
          refine z_astore O dX1_noiseOf_35 (by decide) ?_
          refine z_aload O dX1_noiseOf_37 rfl ?_
          refine z_aload_n O dX1_noiseOf_39 rfl ?_
          refine z_get O (fk := 2) (fun x h => zI x (zu_RX1 x h)) rfl (by decide) (zI _ zm0_34) dX1_noiseOf_40 (zg_ev) rfl ?_
          refine z_callV O (c_X0_isOnIn hl hi hi20) zI zm1_51 zm1_52 zm1_53 zm0_14 zm0_10 ⟨rfl, by decide +kernel, by decide +kernel, (show _ = some 1 by decide +kernel)⟩ rfl (zg_cue hi hi20) ⟨Nat.le_of_ble_eq_true rfl, Nat.le_of_ble_eq_true rfl⟩ ⟨Nat.le_of_ble_eq_true rfl, Nat.le_of_ble_eq_true rfl⟩ dX1_noiseOf_43 rfl (Nat.le_of_ble_eq_true rfl) (fun _ _ _ h => h.elim) (fun r w1 ad1 hp => ?_)
          rcases hp with ⟨rfl, ho, rfl, rfl⟩ | ⟨rfl, ho, rfl, rfl⟩
          · refine z_if_eq O dX1_noiseOf_46 (tgt := 68) (by decide) (fun g => absurd g (by decide)) (fun _ => ?_)
            refine z_aload_n O dX1_noiseOf_49 rfl ?_
            refine z_aload O dX1_noiseOf_50 rfl ?_
            refine z_callV O (c_X2_follows hl hj hj2 hi hi20) zI zm1_54 zm1_55 zm1_56 zm1_57 zm1_33 ⟨rfl, by decide +kernel, by decide +kernel, (show _ = some 1 by decide +kernel)⟩ rfl (zg_hand hj hj2) ⟨Nat.le_of_ble_eq_true rfl, Nat.le_of_ble_eq_true rfl⟩ ⟨Nat.le_of_ble_eq_true rfl, Nat.le_of_ble_eq_true rfl⟩ dX1_noiseOf_52 rfl (Nat.le_of_ble_eq_true rfl) (fun _ _ _ h => h.elim) (fun r w1 ad1 hp => ?_)
            rcases hp with ⟨rfl, hw, rfl, rfl⟩ | ⟨rfl, hw, rfl, rfl⟩
            · refine z_if_eq O dX1_noiseOf_55 (tgt := 68) (by decide) (fun g => absurd g (by decide)) (fun _ => ?_)
              refine z_iload_n O dX1_noiseOf_58 rfl ?_
              refine z_aload O dX1_noiseOf_59 rfl ?_
              refine z_get O (fk := 3) (fun x h => zI x (zu_RX0 x h)) rfl (by decide) (zI _ zm1_37) dX1_noiseOf_61 (zg_cue hi hi20) rfl ?_
              refine z_mmax O zI zm1_38 zm1_14 zm1_11 zm1_15 dX1_noiseOf_64 (Nat.le_of_ble_eq_true rfl) (Nat.le_of_ble_eq_true rfl) (Nat.le_of_ble_eq_true rfl) (Nat.le_of_ble_eq_true rfl) ?_
              refine z_istore_n O dX1_noiseOf_67 (by decide) ?_
              refine z_iincN O dX1_noiseOf_68 (a := i) rfl (by decide) ?_
              refine z_goto O dX1_noiseOf_71 (tgt := 13) (by decide) ?_
              exact zV.loc (ih (i + 1) _ (by omega) (by omega) (by rw [hacc, show fForce Z j (i + 1) = fMax (fForce Z j i) (Z 21 i) from if_pos ⟨ho, hw⟩]; rfl)) ⟨rfl, rfl, rfl, rfl, trivial⟩
            · refine z_if_eq O dX1_noiseOf_55 (tgt := 68) (by decide) (fun _ => ?_) (fun g => absurd rfl g)
              refine z_iincN O dX1_noiseOf_68 (a := i) rfl (by decide) ?_
              refine z_goto O dX1_noiseOf_71 (tgt := 13) (by decide) ?_
              exact zV.loc (ih (i + 1) _ (by omega) (by omega) (by rw [hacc, show fForce Z j (i + 1) = fForce Z j i from if_neg (fun q => hw q.2)])) ⟨rfl, rfl, rfl, rfl, trivial⟩
          · refine z_if_eq O dX1_noiseOf_46 (tgt := 68) (by decide) (fun _ => ?_) (fun g => absurd rfl g)
            refine z_iincN O dX1_noiseOf_68 (a := i) rfl (by decide) ?_
            refine z_goto O dX1_noiseOf_71 (tgt := 13) (by decide) ?_
            exact zV.loc (ih (i + 1) _ (by omega) (by omega) (by rw [hacc, show fForce Z j (i + 1) = fForce Z j i from if_neg (fun q => ho q.1)])) ⟨rfl, rfl, rfl, rfl, trivial⟩
    refine z_iconst O dX1_noiseOf_9 (v := 0) (by decide) ?_
    refine z_istore_n O dX1_noiseOf_10 (by decide) ?_
    refine z_iconst O dX1_noiseOf_11 (v := 0) (by decide) ?_
    refine z_istore_n O dX1_noiseOf_12 (by decide) ?_
    exact zV.loc (L (zN Z 2 + 1) 0 0 (by omega) (by omega) rfl) ⟨rfl, rfl, rfl, rfl, trivial⟩

set_option maxRecDepth 100000 in
set_option maxHeartbeats 4000000 in
theorem c_X1_lastBegunCue {G : zG} {l : Launch} (hl : l.stackTraces = false) {Z : zM} {sb : Nat → Option Nat} {mcn : Nat → Int32} {cp : Nat → Nat} {Y : zM} {th : Int32} {o : Nat → Int64} {od : Nat → UInt64} {ad : Nat → Nat} (hL2 : zLst Z cp 2) : zCt G l yX1_lastBegunCue (zws yX1_lastBegunCue cX1_lastBegunCue 4 (some (.object "ClaqueRow$Cue"))) ({ frames := 3, cells := 0, slots := 0, locals := 64 }) [.ref (ad 4)] (zent Z sb mcn cp G.2.2.2.1 Y th o od ad) ad (fun r w1 ad1 => some (va_rf ((fLast Z (zN Z 2)).map (fun c => ad (240 + c)))) = r ∧ zent Z sb mcn cp G.2.2.2.1 Y th o od ad = w1 ∧ ad = ad1) (zNoX) := by
  refine z_body hl (by decide +kernel) (Nat.le_of_ble_eq_true rfl) (fun X O => ?_)
  have L : ∀ (n : Nat) (i : Nat), i ≤ zN Z 2 → zN Z 2 < i + n → zV G X 4 0 0 4 [(0, .ref (ad 4)), (1, va_rf ((fLast Z i).map (fun c => ad (240 + c)))), (2, .int (nI i))] [] (zent Z sb mcn cp G.2.2.2.1 Y th o od ad) ad := by
    intro n
    induction n with
    | zero => intro i h1 h2; omega
    | succ n ih =>
      intro i h1 h2
      refine z_iload_n O dX1_lastBegunCue_4 rfl ?_
      refine z_aload_n O dX1_lastBegunCue_5 rfl ?_
      refine z_get O (fk := 0) (fun x h => zI x (zu_RX1 x h)) rfl (by decide) (zI _ zm0_32) dX1_lastBegunCue_6 (zg_ev) rfl ?_
      refine z_callV O (c_size_l hl (i := 2) (by decide) hL2) zI zm1_45 zm1_46 zm1_47 zm0_31 zm1_19 ⟨rfl, by decide +kernel, by decide +kernel, (show _ = some 0 by decide +kernel)⟩ rfl ((zg_list0 (i := 2) (by decide) hL2)) ⟨Nat.le_of_ble_eq_true rfl, Nat.le_of_ble_eq_true rfl⟩ ⟨Nat.le_of_ble_eq_true rfl, Nat.le_of_ble_eq_true rfl⟩ dX1_lastBegunCue_9 rfl (Nat.le_of_ble_eq_true rfl) (fun _ _ _ h => h.elim) (fun r w1 ad1 hp => ?_)
      obtain ⟨rfl, rfl, rfl⟩ := hp
      refine z_icmp_ge O dX1_lastBegunCue_12 (tgt := 61) (by decide) (fun h => ?_) (fun h => ?_)
      · have hi : i = zN Z 2 := by have := z_ge_ge (by have := hL2.2.2.2; omega) (by have := hL2.2.2.2; omega) h; omega
        subst hi
        cases hb : fLast Z (zN Z 2) with
        | none =>
          refine z_aload_nN O dX1_lastBegunCue_61 rfl ?_
          exact z_aret O (r := none) rfl (by first | exact Or.inl ⟨_, rfl⟩ | exact Or.inr ⟨_, rfl⟩) dX1_lastBegunCue_62 (Nat.le_of_ble_eq_true rfl) (Nat.le_of_ble_eq_true rfl) (⟨by rw [hb]; rfl, rfl, rfl⟩)
        | some b =>
          refine z_aload_n O dX1_lastBegunCue_61 rfl ?_
          exact z_aret O (r := (some (ad (240 + b)))) rfl (by first | exact Or.inl ⟨_, rfl⟩ | exact Or.inr ⟨_, rfl⟩) dX1_lastBegunCue_62 (Nat.le_of_ble_eq_true rfl) (Nat.le_of_ble_eq_true rfl) (⟨by rw [hb]; rfl, rfl, rfl⟩)
      · have hi : i < zN Z 2 := z_ge_lt (by have := hL2.2.2.2; omega) (by have := hL2.2.2.2; omega) h
        have hi20 : i < 20 := by have := hL2.2.2.2; omega
        cases hb : fLast Z i with
        | none =>
          refine z_aload_n O dX1_lastBegunCue_15 rfl ?_
          refine z_get O (fk := 0) (fun x h => zI x (zu_RX1 x h)) rfl (by decide) (zI _ zm0_32) dX1_lastBegunCue_16 (zg_ev) rfl ?_
          refine z_iload_n O dX1_lastBegunCue_19 rfl ?_
          refine z_callV O (c_get_cue hl hL2 hi) zI zm1_48 zm1_49 zm1_50 zm0_31 zm1_26 ⟨rfl, by decide +kernel, by decide +kernel, (show _ = some 1 by decide +kernel)⟩ rfl ((zg_list0 (i := 2) (by decide) hL2)) ⟨Nat.le_of_ble_eq_true rfl, Nat.le_of_ble_eq_true rfl⟩ ⟨Nat.le_of_ble_eq_true rfl, Nat.le_of_ble_eq_true rfl⟩ dX1_lastBegunCue_20 rfl (Nat.le_of_ble_eq_true rfl) (fun _ _ _ h => h.elim) (fun r w1 ad1 hp => ?_)
          obtain ⟨rfl, rfl, rfl⟩ := hp
          refine z_cast0 O rfl (zI _ zm1_36) (zg_cue hi hi20) dX1_lastBegunCue_23 ?_
          refine z_astore_n O dX1_lastBegunCue_26 (by decide) ?_
          refine z_aload_n O dX1_lastBegunCue_27 rfl ?_
          refine z_get O (fk := 2) (fun x h => zI x (zu_RX0 x h)) rfl (by decide) (zI _ zm2_6) dX1_lastBegunCue_28 (zg_cue hi hi20) rfl ?_
          refine z_aload_n O dX1_lastBegunCue_31 rfl ?_
          refine z_get O (fk := 2) (fun x h => zI x (zu_RX1 x h)) rfl (by decide) (zI _ zm0_34) dX1_lastBegunCue_32 (zg_ev) rfl ?_
          refine z_icmp_gt O dX1_lastBegunCue_35 (tgt := 55) (by decide) (fun g => ?_) (fun g => ?_)
          · refine z_iincN O dX1_lastBegunCue_55 (a := i) rfl (by decide) ?_
            refine z_goto O dX1_lastBegunCue_58 (tgt := 4) (by decide) ?_
            exact zV.loc (ih (i + 1) (by omega) (by omega)) ⟨rfl, by rw [show fLast Z (i + 1) = none from by rw [fLast, if_neg (Int32.not_le.mpr g), hb]]; rfl, rfl, trivial⟩
          · refine z_aload_nN O dX1_lastBegunCue_38 rfl ?_
            refine z_ifnullN O dX1_lastBegunCue_39 (tgt := 53) (by decide) ?_
            refine z_aload_n O dX1_lastBegunCue_53 rfl ?_
            refine z_astore_n O dX1_lastBegunCue_54 (by decide) ?_
            refine z_iincN O dX1_lastBegunCue_55 (a := i) rfl (by decide) ?_
            refine z_goto O dX1_lastBegunCue_58 (tgt := 4) (by decide) ?_
            exact zV.loc (ih (i + 1) (by omega) (by omega)) ⟨rfl, by rw [show fLast Z (i + 1) = some i from by rw [fLast, if_pos (Int32.not_lt.mp g), hb]]; rfl, rfl, trivial⟩
        | some b =>
          have hbl := fLast_lt hb
          refine z_aload_n O dX1_lastBegunCue_15 rfl ?_
          refine z_get O (fk := 0) (fun x h => zI x (zu_RX1 x h)) rfl (by decide) (zI _ zm0_32) dX1_lastBegunCue_16 (zg_ev) rfl ?_
          refine z_iload_n O dX1_lastBegunCue_19 rfl ?_
          refine z_callV O (c_get_cue hl hL2 hi) zI zm1_48 zm1_49 zm1_50 zm0_31 zm1_26 ⟨rfl, by decide +kernel, by decide +kernel, (show _ = some 1 by decide +kernel)⟩ rfl ((zg_list0 (i := 2) (by decide) hL2)) ⟨Nat.le_of_ble_eq_true rfl, Nat.le_of_ble_eq_true rfl⟩ ⟨Nat.le_of_ble_eq_true rfl, Nat.le_of_ble_eq_true rfl⟩ dX1_lastBegunCue_20 rfl (Nat.le_of_ble_eq_true rfl) (fun _ _ _ h => h.elim) (fun r w1 ad1 hp => ?_)
          obtain ⟨rfl, rfl, rfl⟩ := hp
          refine z_cast0 O rfl (zI _ zm1_36) (zg_cue hi hi20) dX1_lastBegunCue_23 ?_
          refine z_astore_n O dX1_lastBegunCue_26 (by decide) ?_
          refine z_aload_n O dX1_lastBegunCue_27 rfl ?_
          refine z_get O (fk := 2) (fun x h => zI x (zu_RX0 x h)) rfl (by decide) (zI _ zm2_6) dX1_lastBegunCue_28 (zg_cue hi hi20) rfl ?_
          refine z_aload_n O dX1_lastBegunCue_31 rfl ?_
          refine z_get O (fk := 2) (fun x h => zI x (zu_RX1 x h)) rfl (by decide) (zI _ zm0_34) dX1_lastBegunCue_32 (zg_ev) rfl ?_
          refine z_icmp_gt O dX1_lastBegunCue_35 (tgt := 55) (by decide) (fun g => ?_) (fun g => ?_)
          · refine z_iincN O dX1_lastBegunCue_55 (a := i) rfl (by decide) ?_
            refine z_goto O dX1_lastBegunCue_58 (tgt := 4) (by decide) ?_
            exact zV.loc (ih (i + 1) (by omega) (by omega)) ⟨rfl, by rw [show fLast Z (i + 1) = some b from by rw [fLast, if_neg (Int32.not_le.mpr g), hb]]; rfl, rfl, trivial⟩
          · refine z_aload_n O dX1_lastBegunCue_38 rfl ?_
            refine z_ifnull O dX1_lastBegunCue_39 ?_
            refine z_aload_n O dX1_lastBegunCue_42 rfl ?_
            refine z_get O (fk := 2) (fun x h => zI x (zu_RX0 x h)) rfl (by decide) (zI _ zm2_6) dX1_lastBegunCue_43 (zg_cue hi hi20) rfl ?_
            refine z_aload_n O dX1_lastBegunCue_46 rfl ?_
            refine z_get O (fk := 2) (fun x h => zI x (zu_RX0 x h)) rfl (by decide) (zI _ zm2_6) dX1_lastBegunCue_47 (zg_cue (k := b) (by omega) (by omega)) rfl ?_
            refine z_icmp_lt O dX1_lastBegunCue_50 (tgt := 55) (by decide) (fun g2 => ?_) (fun g2 => ?_)
            · refine z_iincN O dX1_lastBegunCue_55 (a := i) rfl (by decide) ?_
              refine z_goto O dX1_lastBegunCue_58 (tgt := 4) (by decide) ?_
              exact zV.loc (ih (i + 1) (by omega) (by omega)) ⟨rfl, by rw [show fLast Z (i + 1) = some b from by rw [fLast, if_pos (Int32.not_lt.mp g), hb]; exact if_pos g2]; rfl, rfl, trivial⟩
            · refine z_aload_n O dX1_lastBegunCue_53 rfl ?_
              refine z_astore_n O dX1_lastBegunCue_54 (by decide) ?_
              refine z_iincN O dX1_lastBegunCue_55 (a := i) rfl (by decide) ?_
              refine z_goto O dX1_lastBegunCue_58 (tgt := 4) (by decide) ?_
              exact zV.loc (ih (i + 1) (by omega) (by omega)) ⟨rfl, by rw [show fLast Z (i + 1) = some i from by rw [fLast, if_pos (Int32.not_lt.mp g), hb]; exact if_neg g2]; rfl, rfl, trivial⟩
  refine z_null O dX1_lastBegunCue_0 ?_
  refine z_astore_nN O dX1_lastBegunCue_1 (by decide) ?_
  refine z_iconst O dX1_lastBegunCue_2 (v := 0) (by decide) ?_
  refine z_istore_n O dX1_lastBegunCue_3 (by decide) ?_
  exact zV.loc (L (zN Z 2 + 1) 0 (by omega) (by omega)) ⟨rfl, rfl, rfl, trivial⟩

set_option maxRecDepth 100000 in
set_option maxHeartbeats 4000000 in
theorem c_X1_hearNoise {G : zG} {l : Launch} (hl : l.stackTraces = false) {Z : zM} {sb : Nat → Option Nat} {mcn : Nat → Int32} {cp : Nat → Nat} {Y : zM} {th : Int32} {o : Nat → Int64} {od : Nat → UInt64} {ad : Nat → Nat} (hL2 : zLst Z cp 2) (hs : ∀ c, c < zN Z 2 → (Z 19 c).toNatClampNeg < zN Z 1) (hn1 : zN Z 1 ≤ 12) {x : Int32} : zCt G l yX1_hearNoise (zws yX1_hearNoise cX1_hearNoise 3 none) ({ frames := 4, cells := 0, slots := 0, locals := 87 }) [.ref (ad 4), .int x] (zent Z sb mcn cp G.2.2.2.1 Y th o od ad) ad (fun r w1 ad1 => none = r ∧ zent (fHear Z x) sb mcn cp G.2.2.2.1 Y th o od ad = w1 ∧ ad = ad1) (zNoX) := by
  refine z_body hl (by decide +kernel) (Nat.le_of_ble_eq_true rfl) (fun X O => ?_)
  refine z_iload_n O dX1_hearNoise_0 rfl ?_
  refine z_aload_n O dX1_hearNoise_1 rfl ?_
  refine z_get O (fk := 1) (fun x h => zI x (zu_RX1 x h)) rfl (by decide) (zI _ zm0_33) dX1_hearNoise_2 (zg_ev) rfl ?_
  refine z_icmp_ge O dX1_hearNoise_5 (tgt := 14) (by decide) (fun h => ?_) (fun h => ?_)
  · refine z_aload_n O dX1_hearNoise_14 rfl ?_
    refine z_dup O dX1_hearNoise_15 rfl ?_
    refine z_get O (fk := 3) (fun x h => zI x (zu_RX1 x h)) rfl (by decide) (zI _ zm0_35) dX1_hearNoise_16 (zg_ev) rfl ?_
    refine z_iconst O dX1_hearNoise_19 (v := 1) (by decide) ?_
    refine z_iadd O dX1_hearNoise_20 ?_
    refine z_put O (fk := 3) (fun x h => zI x (zu_RX1 x h)) tyX1 tyX1_ok nmX1 rfl (by decide) (zI _ zm0_35) rfl dX1_hearNoise_21 rfl rfl (zg_ev) (Nat.le_of_ble_eq_true rfl) (zp_ev (F := 30) (p := 3) (by decide) rfl) ?_
    refine z_aload_n O dX1_hearNoise_24 rfl ?_
    refine z_get O (fk := 3) (fun x h => zI x (zu_RX1 x h)) rfl (by decide) (zI _ zm0_35) dX1_hearNoise_25 (zg_ev) rfl ?_
    refine z_iconst O dX1_hearNoise_28 (v := 5) (by decide) ?_
    refine z_icmp_ge O dX1_hearNoise_29 (tgt := 33) (by decide) (fun g0 => ?_) (fun g0 => ?_)
    · have g : ¬ zu Z 30 0 (Z 30 0 + 1) 30 0 < 5 := Int32.not_lt.mpr g0
      refine z_aload_n O dX1_hearNoise_33 rfl ?_
      refine z_iconst O dX1_hearNoise_34 (v := 0) (by decide) ?_
      refine z_put O (fk := 3) (fun x h => zI x (zu_RX1 x h)) tyX1 tyX1_ok nmX1 rfl (by decide) (zI _ zm0_35) rfl dX1_hearNoise_35 rfl rfl (zg_ev) (Nat.le_of_ble_eq_true rfl) (zp_ev (F := 30) (p := 3) (by decide) rfl) ?_
      refine z_aload_n O dX1_hearNoise_38 rfl ?_
      refine z_dup O dX1_hearNoise_39 rfl ?_
      refine z_get O (fk := 4) (fun x h => zI x (zu_RX1 x h)) rfl (by decide) (zI _ zm0_36) dX1_hearNoise_40 (zg_ev) rfl ?_
      refine z_iconst O dX1_hearNoise_43 (v := 1) (by decide) ?_
      refine z_iadd O dX1_hearNoise_44 ?_
      refine z_put O (fk := 4) (fun x h => zI x (zu_RX1 x h)) tyX1 tyX1_ok nmX1 rfl (by decide) (zI _ zm0_36) rfl dX1_hearNoise_45 rfl rfl (zg_ev) (Nat.le_of_ble_eq_true rfl) (zp_ev (F := 31) (p := 4) (by decide) rfl) ?_
      refine z_aload_n O dX1_hearNoise_48 rfl ?_
      have e3 : zu (zu (zu Z 30 0 (Z 30 0 + 1)) 30 0 0) 31 0 (zu (zu Z 30 0 (Z 30 0 + 1)) 30 0 0 31 0 + 1) = zu (zu (zu Z 30 0 (Z 30 0 + 1)) 30 0 0) 31 0 (Z 31 0 + 1) := by rw [zu_f (by decide), zu_f (by decide)]
      rw [e3]
      obtain ⟨Z3, hZ3⟩ : ∃ z, z = zu (zu (zu Z 30 0 (Z 30 0 + 1)) 30 0 0) 31 0 (Z 31 0 + 1) := ⟨_, rfl⟩
      rw [← hZ3]
      have hN2 : zN Z3 2 = zN Z 2 := by rw [hZ3]; simp [zN, zu]
      have hN1 : zN Z3 1 = zN Z 1 := by rw [hZ3]; simp [zN, zu]
      have h19 : ∀ c, Z3 19 c = Z 19 c := fun c => by rw [hZ3]; simp [zu]
      have hL3 : zLst Z3 cp 2 := by
        refine ⟨?_, by rw [hN2]; exact hL2.2.1, hL2.2.2.1, by rw [hN2]; exact hL2.2.2.2⟩
        rw [hN2, ← hL2.1, hZ3]; simp [zu]
      have hfin : fHear Z x = fCalled Z3 := by unfold fHear; rw [if_neg (Int32.not_lt.mpr h), if_neg (by simpa [zu] using g), ← hZ3]
      refine z_callV O (c_X1_lastBegunCue hl hL3) zI zm2_10 zm2_11 zm2_12 zm1_44 zm2_7 ⟨rfl, by decide +kernel, by decide +kernel, (show _ = some 0 by decide +kernel)⟩ rfl (zg_ev) ⟨Nat.le_of_ble_eq_true rfl, Nat.le_of_ble_eq_true rfl⟩ ⟨Nat.le_of_ble_eq_true rfl, Nat.le_of_ble_eq_true rfl⟩ dX1_hearNoise_49 rfl (Nat.le_of_ble_eq_true rfl) (fun _ _ _ h => h.elim) (fun r w1 ad1 hp => ?_)
      obtain ⟨rfl, rfl, rfl⟩ := hp
      cases hb : fLast Z3 (zN Z3 2) with
      | none =>
        refine z_astore_nN O dX1_hearNoise_52 (by decide) ?_
        refine z_aload_nN O dX1_hearNoise_53 rfl ?_
        refine z_ifnullN O dX1_hearNoise_54 (tgt := 70) (by decide) ?_
        exact z_vret O dX1_hearNoise_70 (Nat.le_of_ble_eq_true rfl) (Nat.le_of_ble_eq_true rfl) (⟨rfl, by rw [hfin]; unfold fCalled; rw [hb], rfl⟩)
      | some c =>
        have hc := fLast_lt hb
        have hc2 : c < zN Z 2 := by rw [hN2] at hc; exact hc
        have hs2 : (Z3 19 c).toNatClampNeg < zN Z3 1 := by rw [h19, hN1]; exact hs c hc2
        have hs20 : (Z3 19 c).toNatClampNeg < 20 := by rw [hN1] at hs2; omega
        refine z_astore_n O dX1_hearNoise_52 (by decide) ?_
        refine z_aload_n O dX1_hearNoise_53 rfl ?_
        refine z_ifnull O dX1_hearNoise_54 ?_
        refine z_aload_n O dX1_hearNoise_57 rfl ?_
        refine z_get O (fk := 0) (fun x h => zI x (zu_RX0 x h)) rfl (by decide) (zI _ zm2_8) dX1_hearNoise_58 (zg_cue hc (by have := hL2.2.2.2; omega)) rfl ?_
        refine z_dup O dX1_hearNoise_61 rfl ?_
        refine z_get O (fk := 2) (fun x h => zI x (zu_RX5 x h)) rfl (by decide) (zI _ zm2_9) dX1_hearNoise_62 (zg_singer hs2 hs20) rfl ?_
        refine z_iconst O dX1_hearNoise_65 (v := 1) (by decide) ?_
        refine z_iadd O dX1_hearNoise_66 ?_
        refine z_put O (fk := 2) (fun x h => zI x (zu_RX5 x h)) tyX5 tyX5_ok nmX5 rfl (by decide) (zI _ zm2_9) rfl dX1_hearNoise_67 rfl rfl (zg_singer hs2 hs20) (Nat.le_of_ble_eq_true rfl) (zp_singer_calls hs2 hs20) ?_
        exact z_vret O dX1_hearNoise_70 (Nat.le_of_ble_eq_true rfl) (Nat.le_of_ble_eq_true rfl) (⟨rfl, by rw [hfin]; unfold fCalled; rw [hb], rfl⟩)
    · have g : zu Z 30 0 (Z 30 0 + 1) 30 0 < 5 := Int32.not_le.mp g0
      exact z_vret O dX1_hearNoise_32 (Nat.le_of_ble_eq_true rfl) (Nat.le_of_ble_eq_true rfl) (⟨rfl, by unfold fHear; rw [if_neg (Int32.not_lt.mpr h), if_pos (by simpa [zu] using g)], rfl⟩)
  · refine z_aload_n O dX1_hearNoise_8 rfl ?_
    refine z_iconst O dX1_hearNoise_9 (v := 0) (by decide) ?_
    refine z_put O (fk := 3) (fun x h => zI x (zu_RX1 x h)) tyX1 tyX1_ok nmX1 rfl (by decide) (zI _ zm0_35) rfl dX1_hearNoise_10 rfl rfl (zg_ev) (Nat.le_of_ble_eq_true rfl) (zp_ev (F := 30) (p := 3) (by decide) rfl) ?_
    exact z_vret O dX1_hearNoise_13 (Nat.le_of_ble_eq_true rfl) (Nat.le_of_ble_eq_true rfl) (⟨rfl, by unfold fHear; rw [if_pos (Int32.not_le.mp h)], rfl⟩)
end
section
theorem zLst_susp {Z : zM} {cp : Nat → Nat} {F : Nat} {v : Int32} {k i : Nat} (hF : F ≠ 25 + i) (h : zLst Z cp i) : zLst (zu Z F k v) cp i := by
  have hn : zN (zu Z F k v) i = zN Z i := by unfold zN; rw [zu_f (Ne.symm hF)]
  unfold zLst
  rw [hn, zu_f (Ne.symm hF)]
  exact h
set_option maxRecDepth 100000 in
set_option maxHeartbeats 4000000 in
theorem c_X1_judgeCues {G : zG} {l : Launch} (hl : l.stackTraces = false) {Z : zM} {sb : Nat → Option Nat} {mcn : Nat → Int32} {cp : Nat → Nat} {Y : zM} {th : Int32} {o : Nat → Int64} {od : Nat → UInt64} {ad : Nat → Nat} (hL2 : zLst Z cp 2) {x y : Int32} : zCt G l yX1_judgeCues (zws yX1_judgeCues cX1_judgeCues 4 none) ({ frames := 3, cells := 0, slots := 0, locals := 64 }) [.ref (ad 4), .int x, .int y] (zent Z sb mcn cp G.2.2.2.1 Y th o od ad) ad (fun r w1 ad1 => none = r ∧ zent (fJudge Z x y) sb mcn cp G.2.2.2.1 Y th o od ad = w1 ∧ ad = ad1) (zNoX) := by
  refine z_body hl (by decide +kernel) (Nat.le_of_ble_eq_true rfl) (fun X O => ?_)
  refine z_iload_n O dX1_judgeCues_0 rfl ?_
  refine z_iload_n O dX1_judgeCues_1 rfl ?_
  refine z_icmp_lt O dX1_judgeCues_2 (tgt := 6) (by decide) (fun h => ?_) (fun h => ?_)
  · have L : ∀ (n : Nat) (i : Nat), i ≤ zN Z 2 → zN Z 2 < i + n → zV G X 4 0 0 8 [(0, .ref (ad 4)), (1, .int x), (2, .int y), (3, .int (nI i))] [] (zent (zu Z 33 0 (fJ Z i)) sb mcn cp G.2.2.2.1 Y th o od ad) ad := by
      intro n
      induction n with
      | zero => intro i h1 h2; omega
      | succ n ih =>
        intro i h1 h2
        have hL3 : zLst (zu Z 33 0 (fJ Z i)) cp 2 := zLst_susp (by decide) hL2
        have hN2 : zN (zu Z 33 0 (fJ Z i)) 2 = zN Z 2 := by simp [zN, zu]
        refine z_iload_n O dX1_judgeCues_8 rfl ?_
        refine z_aload_n O dX1_judgeCues_9 rfl ?_
        refine z_get O (fk := 0) (fun x h => zI x (zu_RX1 x h)) rfl (by decide) (zI _ zm0_32) dX1_judgeCues_10 (zg_ev) rfl ?_
        refine z_callV O (c_size_l hl (i := 2) (by decide) hL3) zI zm1_45 zm1_46 zm1_47 zm0_31 zm1_19 ⟨rfl, by decide +kernel, by decide +kernel, (show _ = some 0 by decide +kernel)⟩ rfl ((zg_list0 (i := 2) (by decide) hL3)) ⟨Nat.le_of_ble_eq_true rfl, Nat.le_of_ble_eq_true rfl⟩ ⟨Nat.le_of_ble_eq_true rfl, Nat.le_of_ble_eq_true rfl⟩ dX1_judgeCues_13 rfl (Nat.le_of_ble_eq_true rfl) (fun _ _ _ h => h.elim) (fun r w1 ad1 hp => ?_)
        obtain ⟨rfl, rfl, rfl⟩ := hp
        rw [hN2]
        refine z_icmp_ge O dX1_judgeCues_16 (tgt := 56) (by decide) (fun g => ?_) (fun g => ?_)
        · have hi : i = zN Z 2 := by have := z_ge_ge (by have := hL2.2.2.2; omega) (by have := hL2.2.2.2; omega) g; omega
          subst hi
          exact z_vret O dX1_judgeCues_56 (Nat.le_of_ble_eq_true rfl) (Nat.le_of_ble_eq_true rfl) (⟨rfl, by unfold fJudge; rw [if_pos h], rfl⟩)
        · have hi : i < zN Z 2 := z_ge_lt (by have := hL2.2.2.2; omega) (by have := hL2.2.2.2; omega) g
          have hi20 : i < 20 := by have := hL2.2.2.2; omega
          have hi3 : i < zN (zu Z 33 0 (fJ Z i)) 2 := by rw [hN2]; exact hi
          refine z_aload_n O dX1_judgeCues_19 rfl ?_
          refine z_get O (fk := 0) (fun x h => zI x (zu_RX1 x h)) rfl (by decide) (zI _ zm0_32) dX1_judgeCues_20 (zg_ev) rfl ?_
          refine z_iload_n O dX1_judgeCues_23 rfl ?_
          refine z_callV O (c_get_cue hl hL3 hi3) zI zm1_48 zm1_49 zm1_50 zm0_31 zm1_26 ⟨rfl, by decide +kernel, by decide +kernel, (show _ = some 1 by decide +kernel)⟩ rfl ((zg_list0 (i := 2) (by decide) hL3)) ⟨Nat.le_of_ble_eq_true rfl, Nat.le_of_ble_eq_true rfl⟩ ⟨Nat.le_of_ble_eq_true rfl, Nat.le_of_ble_eq_true rfl⟩ dX1_judgeCues_24 rfl (Nat.le_of_ble_eq_true rfl) (fun _ _ _ h => h.elim) (fun r w1 ad1 hp => ?_)
          obtain ⟨rfl, rfl, rfl⟩ := hp
          refine z_cast0 O rfl (zI _ zm1_36) (zg_cue hi3 hi20) dX1_judgeCues_27 ?_
          refine z_callV O (c_X0_lastTick hl hi3 hi20) zI zm2_16 zm0_12 zm0_13 zm0_14 zm0_9 ⟨rfl, by decide +kernel, by decide +kernel, (show _ = some 0 by decide +kernel)⟩ rfl (zg_cue hi3 hi20) ⟨Nat.le_of_ble_eq_true rfl, Nat.le_of_ble_eq_true rfl⟩ ⟨Nat.le_of_ble_eq_true rfl, Nat.le_of_ble_eq_true rfl⟩ dX1_judgeCues_30 rfl (Nat.le_of_ble_eq_true rfl) (fun _ _ _ h => h.elim) (fun r w1 ad1 hp => ?_)
          obtain ⟨rfl, rfl, rfl⟩ := hp
          refine z_aload_n O dX1_judgeCues_33 rfl ?_
          refine z_get O (fk := 2) (fun x h => zI x (zu_RX1 x h)) rfl (by decide) (zI _ zm0_34) dX1_judgeCues_34 (zg_ev) rfl ?_
          refine z_icmp_ne O dX1_judgeCues_37 (tgt := 50) (by decide) (fun k => ?_) (fun k => ?_)
          all_goals rw [show fLastTick (zu Z 33 0 (fJ Z i)) i = fLastTick Z i by simp [fLastTick, zu], show zu Z 33 0 (fJ Z i) 29 0 = Z 29 0 by simp [zu]] at k
          · refine z_iincN O dX1_judgeCues_50 (a := i) rfl (by decide) ?_
            refine z_goto O dX1_judgeCues_53 (tgt := 8) (by decide) ?_
            refine zV.to (ih (i + 1) (by omega) (by omega)) ⟨rfl, rfl, rfl, rfl, trivial⟩ rfl ?_
            rw [show fJ Z (i + 1) = fJ Z i from if_neg k]
          · refine z_aload_n O dX1_judgeCues_40 rfl ?_
            refine z_dup O dX1_judgeCues_41 rfl ?_
            refine z_get O (fk := 6) (fun x h => zI x (zu_RX1 x h)) rfl (by decide) (zI _ zm0_38) dX1_judgeCues_42 (zg_ev) rfl ?_
            refine z_iconst O dX1_judgeCues_45 (v := 1) (by decide) ?_
            refine z_iadd O dX1_judgeCues_46 ?_
            refine z_put O (fk := 6) (fun x h => zI x (zu_RX1 x h)) tyX1 tyX1_ok nmX1 rfl (by decide) (zI _ zm0_38) rfl dX1_judgeCues_47 rfl rfl (zg_ev) (Nat.le_of_ble_eq_true rfl) (zp_ev (F := 33) (p := 6) (by decide) rfl) ?_
            refine z_iincN O dX1_judgeCues_50 (a := i) rfl (by decide) ?_
            refine z_goto O dX1_judgeCues_53 (tgt := 8) (by decide) ?_
            refine zV.to (ih (i + 1) (by omega) (by omega)) ⟨rfl, rfl, rfl, rfl, trivial⟩ rfl ?_
            rw [show fJ Z (i + 1) = fJ Z i + 1 from if_pos k]; congr 1; funext f j; unfold zu; by_cases q : f = 33 ∧ j = 0 <;> simp [q]
    refine z_iconst O dX1_judgeCues_6 (v := 0) (by decide) ?_
    refine z_istore_n O dX1_judgeCues_7 (by decide) ?_
    exact zV.to (L (zN Z 2 + 1) 0 (by omega) (by omega)) ⟨rfl, rfl, rfl, rfl, trivial⟩ rfl (by rw [show zu Z 33 0 (fJ Z 0) = Z from zu_id rfl])
  · exact z_vret O dX1_judgeCues_5 (Nat.le_of_ble_eq_true rfl) (Nat.le_of_ble_eq_true rfl) (⟨rfl, by unfold fJudge; rw [if_neg h], rfl⟩)

def fBegin (Z : zM) : zM := zu (zu (zu (zu (zu (zu Z 27 0 0) 29 0 0) 30 0 0) 31 0 0) 32 0 0) 33 0 0
set_option maxRecDepth 100000 in
set_option maxHeartbeats 4000000 in
theorem c_X1_begin {G : zG} {l : Launch} (hl : l.stackTraces = false) {Z : zM} {sb : Nat → Option Nat} {mcn : Nat → Int32} {cp : Nat → Nat} {Y : zM} {th : Int32} {o : Nat → Int64} {od : Nat → UInt64} {ad : Nat → Nat} (hL2 : zLst Z cp 2) : zCt G l yX1_begin (zws yX1_begin cX1_begin 1 none) ({ frames := 1, cells := 0, slots := 0, locals := 23 }) [.ref (ad 4)] (zent Z sb mcn cp G.2.2.2.1 Y th o od ad) ad (fun r w1 ad1 => none = r ∧ zent (fBegin Z) sb (va_up mcn 2 (mcn 2 + 1)) cp G.2.2.2.1 Y th o od ad = w1 ∧ ad = ad1) (zNoX) := by
  refine z_body hl (by decide +kernel) (Nat.le_of_ble_eq_true rfl) (fun X O => ?_)
  have hfin : ∀ (w9 : zH), (∀ j e, zent (zu Z 27 0 0) sb (va_up mcn 2 (mcn 2 + 1)) cp G.2.2.2.1 Y th o od ad j = some e → w9 j = some e) → zV G X 1 0 0 7 [(0, .ref (ad 4))] [] w9 ad := by
    intro w9 h9
    refine zV.world (w' := zent (zu Z 27 0 0) sb (va_up mcn 2 (mcn 2 + 1)) cp G.2.2.2.1 Y th o od ad) (ad' := ad) ?_ (fun H hR => hR.less h9)
    refine z_aload_n O dX1_begin_7 rfl ?_
    refine z_iconst O dX1_begin_8 (v := 0) (by decide) ?_
    refine z_put O (fk := 2) (fun x h => zI x (zu_RX1 x h)) tyX1 tyX1_ok nmX1 rfl (by decide) (zI _ zm0_34) rfl dX1_begin_9 rfl rfl (zg_ev) (Nat.le_of_ble_eq_true rfl) (zp_ev (F := 29) (p := 2) (by decide) rfl) ?_
    refine z_aload_n O dX1_begin_12 rfl ?_
    refine z_iconst O dX1_begin_13 (v := 0) (by decide) ?_
    refine z_put O (fk := 3) (fun x h => zI x (zu_RX1 x h)) tyX1 tyX1_ok nmX1 rfl (by decide) (zI _ zm0_35) rfl dX1_begin_14 rfl rfl (zg_ev) (Nat.le_of_ble_eq_true rfl) (zp_ev (F := 30) (p := 3) (by decide) rfl) ?_
    refine z_aload_n O dX1_begin_17 rfl ?_
    refine z_iconst O dX1_begin_18 (v := 0) (by decide) ?_
    refine z_put O (fk := 4) (fun x h => zI x (zu_RX1 x h)) tyX1 tyX1_ok nmX1 rfl (by decide) (zI _ zm0_36) rfl dX1_begin_19 rfl rfl (zg_ev) (Nat.le_of_ble_eq_true rfl) (zp_ev (F := 31) (p := 4) (by decide) rfl) ?_
    refine z_aload_n O dX1_begin_22 rfl ?_
    refine z_iconst O dX1_begin_23 (v := 0) (by decide) ?_
    refine z_put O (fk := 5) (fun x h => zI x (zu_RX1 x h)) tyX1 tyX1_ok nmX1 rfl (by decide) (zI _ zm0_37) rfl dX1_begin_24 rfl rfl (zg_ev) (Nat.le_of_ble_eq_true rfl) (zp_ev (F := 32) (p := 5) (by decide) rfl) ?_
    refine z_aload_n O dX1_begin_27 rfl ?_
    refine z_iconst O dX1_begin_28 (v := 0) (by decide) ?_
    refine z_put O (fk := 6) (fun x h => zI x (zu_RX1 x h)) tyX1 tyX1_ok nmX1 rfl (by decide) (zI _ zm0_38) rfl dX1_begin_29 rfl rfl (zg_ev) (Nat.le_of_ble_eq_true rfl) (zp_ev (F := 33) (p := 6) (by decide) rfl) ?_
    exact z_vret O dX1_begin_32 (Nat.le_of_ble_eq_true rfl) (Nat.le_of_ble_eq_true rfl) (⟨rfl, rfl, rfl⟩)
  by_cases c0 : cp 2 = 0
  · have hn0 : zN Z 2 = 0 := by have := hL2.2.1; omega
    have hw7 : (zent Z sb mcn cp G.2.2.2.1 Y th o od ad) 7 = some (zLs (mcn 2) (.ref G.2.2.2.1) 0) := by
      have := zg_list0 (sb := sb) (mcn := mcn) (e0 := G.2.2.2.1) (Y := Y) (th := th) (o := o) (od := od) (ad := ad) (i := 2) (by decide) hL2
      rw [if_pos c0, hn0] at this
      exact this
    refine z_aload_n O dX1_begin_0 rfl ?_
    refine z_get O (fk := 0) (fun x h => zI x (zu_RX1 x h)) rfl (by decide) (zI _ zm0_32) dX1_begin_1 (zg_ev) rfl ?_
    refine z_callV O (c_clear0 hl (a := 7) hw7) zI zm0_47 zm0_48 zm0_49 zm0_31 zm0_42 ⟨rfl, by decide +kernel, by decide +kernel, (show _ = some 0 by decide +kernel)⟩ rfl (hw7) ⟨Nat.le_of_ble_eq_true rfl, Nat.le_of_ble_eq_true rfl⟩ ⟨Nat.le_of_ble_eq_true rfl, Nat.le_of_ble_eq_true rfl⟩ dX1_begin_4 rfl (Nat.le_of_ble_eq_true rfl) (fun _ _ _ h => h.elim) (fun r w1 ad1 hp => ?_)
    obtain ⟨rfl, rfl, rfl⟩ := hp
    exact zV.loc (hfin _ (zw_clear (Z := Z) (by rw [wU_s, if_pos c0]) (fun q => absurd c0 q) (fun j j7 _ => wU_n j7))) ⟨rfl, trivial⟩
  · refine z_aload_n O dX1_begin_0 rfl ?_
    refine z_get O (fk := 0) (fun x h => zI x (zu_RX1 x h)) rfl (by decide) (zI _ zm0_32) dX1_begin_1 (zg_ev) rfl ?_
    refine z_callV O (c_clear hl (a := 7) (b := 10) (by decide) (zg_list1 (i := 2) (by decide) hL2 c0) (zg_larr (i := 2) (by decide) c0) hL2.2.1 (by have := hL2.2.2.1; omega)) zI zm0_47 zm0_48 zm0_49 zm0_31 zm0_42 ⟨rfl, by decide +kernel, by decide +kernel, (show _ = some 0 by decide +kernel)⟩ rfl ((zg_list1 (i := 2) (by decide) hL2 c0)) ⟨Nat.le_of_ble_eq_true rfl, Nat.le_of_ble_eq_true rfl⟩ ⟨Nat.le_of_ble_eq_true rfl, Nat.le_of_ble_eq_true rfl⟩ dX1_begin_4 rfl (Nat.le_of_ble_eq_true rfl) (fun _ _ _ h => h.elim) (fun r w1 ad1 hp => ?_)
    obtain ⟨rfl, rfl, rfl⟩ := hp
    refine zV.loc (hfin _ (zw_clear (Z := Z) (by rw [wU_n (by decide), wU_s, if_neg c0]) (fun q => ?_) (fun j j7 j10 => by rw [wU_n j10, wU_n j7]))) ⟨rfl, trivial⟩
    rw [wU_s]
    unfold zAr
    rw [show (fun k => if k < zN Z 2 then none else if k < zN Z 2 then some (ad (200 + 20 * 2 + k)) else none) = (fun _ => (none : Option Nat)) from funext fun k => by by_cases q2 : k < zN Z 2 <;> simp [q2]]

theorem fSang_mono {Z : zM} {k a : Nat} (h : fSang Z k a = true) : ∀ {b : Nat}, a ≤ b → fSang Z k b = true := by
  intro b hb
  induction b with
  | zero => rw [show a = 0 by omega] at h; exact h
  | succ b ih =>
    by_cases q : a ≤ b
    · show (fSang Z k b || _) = true
      rw [ih q]; rfl
    · rw [show a = b + 1 by omega] at h; exact h
set_option maxRecDepth 100000 in
set_option maxHeartbeats 4000000 in
theorem c_X1_hasBegunCueFor {G : zG} {l : Launch} (hl : l.stackTraces = false) {Z : zM} {sb : Nat → Option Nat} {mcn : Nat → Int32} {cp : Nat → Nat} {Y : zM} {th : Int32} {o : Nat → Int64} {od : Nat → UInt64} {ad : Nat → Nat} (hL2 : zLst Z cp 2) (hs : ∀ c, c < zN Z 2 → (Z 19 c).toNatClampNeg < zN Z 1) (hn1 : zN Z 1 ≤ 12) {k : Nat} (hk : k < zN Z 1) : zCt G l yX1_hasBegunCueFor (zws yX1_hasBegunCueFor cX1_hasBegunCueFor 4 (some .boolean)) ({ frames := 3, cells := 0, slots := 0, locals := 64 }) [.ref (ad 4), .ref (ad (220 + k))] (zent Z sb mcn cp G.2.2.2.1 Y th o od ad) ad (fun r w1 ad1 => some (.int (if fSang Z k (zN Z 2) then 1 else 0)) = r ∧ zent Z sb mcn cp G.2.2.2.1 Y th o od ad = w1 ∧ ad = ad1) (zNoX) := by
  refine z_body hl (by decide +kernel) (Nat.le_of_ble_eq_true rfl) (fun X O => ?_)
  have L : ∀ (n : Nat) (i : Nat), i ≤ zN Z 2 → zN Z 2 < i + n → fSang Z k i = false → zV G X 4 0 0 2 [(0, .ref (ad 4)), (1, .ref (ad (220 + k))), (2, .int (nI i))] [] (zent Z sb mcn cp G.2.2.2.1 Y th o od ad) ad := by
    intro n
    induction n with
    | zero => intro i h1 h2 hb; omega
    | succ n ih =>
      intro i h1 h2 hb
      refine z_iload_n O dX1_hasBegunCueFor_2 rfl ?_
      refine z_aload_n O dX1_hasBegunCueFor_3 rfl ?_
      refine z_get O (fk := 0) (fun x h => zI x (zu_RX1 x h)) rfl (by decide) (zI _ zm0_32) dX1_hasBegunCueFor_4 (zg_ev) rfl ?_
      refine z_callV O (c_size_l hl (i := 2) (by decide) hL2) zI zm1_45 zm1_46 zm1_47 zm0_31 zm1_19 ⟨rfl, by decide +kernel, by decide +kernel, (show _ = some 0 by decide +kernel)⟩ rfl ((zg_list0 (i := 2) (by decide) hL2)) ⟨Nat.le_of_ble_eq_true rfl, Nat.le_of_ble_eq_true rfl⟩ ⟨Nat.le_of_ble_eq_true rfl, Nat.le_of_ble_eq_true rfl⟩ dX1_hasBegunCueFor_7 rfl (Nat.le_of_ble_eq_true rfl) (fun _ _ _ h => h.elim) (fun r w1 ad1 hp => ?_)
      obtain ⟨rfl, rfl, rfl⟩ := hp
      refine z_icmp_ge O dX1_hasBegunCueFor_10 (tgt := 52) (by decide) (fun h => ?_) (fun h => ?_)
      · have hi : i = zN Z 2 := by have := z_ge_ge (by have := hL2.2.2.2; omega) (by have := hL2.2.2.2; omega) h; omega
        subst hi
        refine z_iconst O dX1_hasBegunCueFor_52 (v := 0) (by decide) ?_
        exact z_zret O rfl rfl dX1_hasBegunCueFor_53 (Nat.le_of_ble_eq_true rfl) (Nat.le_of_ble_eq_true rfl) (⟨by rw [hb]; rfl, rfl, rfl⟩)
      · have hi : i < zN Z 2 := z_ge_lt (by have := hL2.2.2.2; omega) (by have := hL2.2.2.2; omega) h
        have hi20 : i < 20 := by have := hL2.2.2.2; omega
        refine z_aload_n O dX1_hasBegunCueFor_13 rfl ?_
        refine z_get O (fk := 0) (fun x h => zI x (zu_RX1 x h)) rfl (by decide) (zI _ zm0_32) dX1_hasBegunCueFor_14 (zg_ev) rfl ?_
        refine z_iload_n O dX1_hasBegunCueFor_17 rfl ?_
        refine z_callV O (c_get_cue hl hL2 hi) zI zm1_48 zm1_49 zm1_50 zm0_31 zm1_26 ⟨rfl, by decide +kernel, by decide +kernel, (show _ = some 1 by decide +kernel)⟩ rfl ((zg_list0 (i := 2) (by decide) hL2)) ⟨Nat.le_of_ble_eq_true rfl, Nat.le_of_ble_eq_true rfl⟩ ⟨Nat.le_of_ble_eq_true rfl, Nat.le_of_ble_eq_true rfl⟩ dX1_hasBegunCueFor_18 rfl (Nat.le_of_ble_eq_true rfl) (fun _ _ _ h => h.elim) (fun r w1 ad1 hp => ?_)
        obtain ⟨rfl, rfl, rfl⟩ := hp
        refine z_cast0 O rfl (zI _ zm1_36) (zg_cue hi hi20) dX1_hasBegunCueFor_21 ?_
        refine z_astore_n O dX1_hasBegunCueFor_24 (by decide) ?_
        refine z_aload_n O dX1_hasBegunCueFor_25 rfl ?_
        refine z_get O (fk := 0) (fun x h => zI x (zu_RX0 x h)) rfl (by decide) (zI _ zm2_8) dX1_hasBegunCueFor_26 (zg_cue hi hi20) rfl ?_
        refine z_aload_n O dX1_hasBegunCueFor_29 rfl ?_
        refine zV.inj (i := 220 + (Z 19 i).toNatClampNeg) (j := 220 + k) (by rw [zg_singer (hs i hi) (by have := hs i hi; omega)]; exact fun q => by cases q) (by rw [zg_singer hk (by omega)]; exact fun q => by cases q) (fun hinj => ?_)
        refine z_acmp_ne O (rx := some (ad (220 + (Z 19 i).toNatClampNeg))) (ry := some (ad (220 + k))) dX1_hasBegunCueFor_30 (tgt := 46) (by decide) (fun g => ?_) (fun g => ?_)
        · refine z_iincN O dX1_hasBegunCueFor_46 (a := i) rfl (by decide) ?_
          refine z_goto O dX1_hasBegunCueFor_49 (tgt := 2) (by decide) ?_
          exact zV.loc (ih (i + 1) (by omega) (by omega) (by show (fSang Z k i || _) = false; rw [hb, show decide ((Z 19 i).toNatClampNeg = k) = false from decide_eq_false (fun q => g (by rw [q]))]; rfl)) ⟨rfl, rfl, rfl, trivial⟩
        · have hik : (Z 19 i).toNatClampNeg = k := by have := hinj (Option.some.inj g); omega
          refine z_aload_n O dX1_hasBegunCueFor_33 rfl ?_
          refine z_get O (fk := 2) (fun x h => zI x (zu_RX0 x h)) rfl (by decide) (zI _ zm2_6) dX1_hasBegunCueFor_34 (zg_cue hi hi20) rfl ?_
          refine z_aload_n O dX1_hasBegunCueFor_37 rfl ?_
          refine z_get O (fk := 2) (fun x h => zI x (zu_RX1 x h)) rfl (by decide) (zI _ zm0_34) dX1_hasBegunCueFor_38 (zg_ev) rfl ?_
          refine z_icmp_ge O dX1_hasBegunCueFor_41 (tgt := 46) (by decide) (fun g2 => ?_) (fun g2 => ?_)
          · refine z_iincN O dX1_hasBegunCueFor_46 (a := i) rfl (by decide) ?_
            refine z_goto O dX1_hasBegunCueFor_49 (tgt := 2) (by decide) ?_
            exact zV.loc (ih (i + 1) (by omega) (by omega) (by show (fSang Z k i || _) = false; rw [hb, show decide (Z 20 i < Z 29 0) = false from decide_eq_false (Int32.not_lt.mpr g2)]; simp)) ⟨rfl, rfl, rfl, trivial⟩
          · refine z_iconst O dX1_hasBegunCueFor_44 (v := 1) (by decide) ?_
            exact z_zret O rfl rfl dX1_hasBegunCueFor_45 (Nat.le_of_ble_eq_true rfl) (Nat.le_of_ble_eq_true rfl) (⟨by rw [fSang_mono (show fSang Z k (i + 1) = true by show (fSang Z k i || _) = true; rw [show decide ((Z 19 i).toNatClampNeg = k) = true from decide_eq_true hik, show decide (Z 20 i < Z 29 0) = true from decide_eq_true (Int32.not_le.mp g2)]; simp) (by omega)]; rfl, rfl, rfl⟩)
  refine z_iconst O dX1_hasBegunCueFor_0 (v := 0) (by decide) ?_
  refine z_istore_n O dX1_hasBegunCueFor_1 (by decide) ?_
  exact zV.loc (L (zN Z 2 + 1) 0 (by omega) (by omega) rfl) ⟨rfl, rfl, rfl, trivial⟩
end
section
/-- the seat at row a, place b, in a tick -/
def fSits (Z : zM) (a b : Nat) : zM :=
  if Z 0 (a * 10 + b) = 112 then fPay Z (a * 10 + b) (fAround Z a b)
  else if Z 0 (a * 10 + b) = 114 then (if fAround Z a b < 12 then zu (zu Z 7 (a * 10 + b) 0) 32 0 (Z 32 0 + 0) else zu (zu Z 7 (a * 10 + b) 1) 32 0 (Z 32 0 + 1))
  else match zh (Z 2 (a * 10 + b)) with
    | none => Z
    | some j => zu Z 3 (a * 10 + b) (fNoise Z j)
def fTickRow (Z : zM) (a : Nat) : Nat → zM
  | 0 => Z
  | b + 1 => fSits (fTickRow Z a b) a b
def fTickRows (Z : zM) (nc : Nat) : Nat → zM
  | 0 => Z
  | a + 1 => fTickRow (fTickRows Z nc a) a nc
/-- the tables that a tick doesn't touch -/
def zFr (Z Z' : zM) : Prop := ∀ f, f < 3 ∨ (9 ≤ f ∧ f ≤ 17) ∨ (19 ≤ f ∧ f ≤ 28) ∨ 34 ≤ f → Z' f = Z f
theorem zFr.rf {Z : zM} : zFr Z Z := fun _ _ => rfl
theorem zFr.tr {Z Z' Z'' : zM} (h : zFr Z Z') (h2 : zFr Z' Z'') : zFr Z Z'' := fun f hf => (h2 f hf).trans (h f hf)
theorem zFr.zu {Z Z' : zM} (h : zFr Z Z') {F k : Nat} {v : Int32} (hF : ¬ (F < 3 ∨ (9 ≤ F ∧ F ≤ 17) ∨ (19 ≤ F ∧ F ≤ 28) ∨ 34 ≤ F)) : zFr Z (zu Z' F k v) := fun f hf => by
  rw [← h f hf]
  funext j
  exact zu_f (fun e => hF (by rw [← e]; exact hf))
theorem zFr_pay (Z : zM) (k : Nat) (a : Int32) : zFr Z (fPay Z k a) := by
  unfold fPay
  split
  · exact (zFr.rf.zu (by decide)).zu (by decide)
  · exact ((zFr.rf.zu (by decide)).zu (by decide)).zu (by decide)
theorem zFr_sits (Z : zM) (a b : Nat) : zFr Z (fSits Z a b) := by
  unfold fSits
  split
  · exact zFr_pay _ _ _
  · split
    · split
      · exact (zFr.rf.zu (by decide)).zu (by decide)
      · exact (zFr.rf.zu (by decide)).zu (by decide)
    · split
      · exact zFr.rf
      · exact zFr.rf.zu (by decide)
theorem zFr_row (Z : zM) (a : Nat) : ∀ b, zFr Z (fTickRow Z a b)
  | 0 => zFr.rf
  | b + 1 => (zFr_row Z a b).tr (zFr_sits _ _ _)
theorem zFr_rows (Z : zM) (nc : Nat) : ∀ a, zFr Z (fTickRows Z nc a)
  | 0 => zFr.rf
  | a + 1 => (zFr_rows Z nc a).tr (zFr_row _ _ _)
theorem zFr_keep (Z : zM) : ∀ i, zFr Z (fIter fKeep Z i)
  | 0 => zFr.rf
  | i + 1 => ((zFr_keep Z i).zu (by decide)).zu (by decide)
theorem zFr_called (Z : zM) : zFr Z (fCalled Z) := by
  unfold fCalled
  split
  · exact zFr.rf
  · exact zFr.rf.zu (by decide)
theorem zFr_hear (Z : zM) (s : Int32) : zFr Z (fHear Z s) := by
  unfold fHear
  split
  · exact zFr.rf.zu (by decide)
  · split
    · exact zFr.rf.zu (by decide)
    · exact (((zFr.rf.zu (by decide)).zu (by decide)).zu (by decide)).tr (zFr_called _)
theorem zFr_judge (Z : zM) (p h : Int32) : zFr Z (fJudge Z p h) := by
  unfold fJudge
  split
  · exact zFr.rf.zu (by decide)
  · exact zFr.rf
/-- what holds of the class's numbers at all times, as far as a tick needs it -/
def zInv (Z : zM) (cp : Nat → Nat) : Prop := zHouse Z ∧ zSeats Z ∧ zLst Z cp 0 ∧ zLst Z cp 1 ∧ zLst Z cp 2 ∧ ∀ c, c < zN Z 2 → (Z 19 c).toNatClampNeg < zN Z 1
theorem zInv.fr {Z Z' : zM} {cp : Nat → Nat} (h : zInv Z cp) (hf : zFr Z Z') : zInv Z' cp := by
  obtain ⟨⟨nr, nc, a1, a2, a3, a4⟩, h2, h3, h4, h5, h6⟩ := h
  have n : ∀ i, i < 3 → zN Z' i = zN Z i := fun i hi => by unfold zN; rw [hf (25 + i) (by omega)]
  have ll : ∀ i, i < 3 → zLst Z cp i → zLst Z' cp i := fun i hi h => by unfold zLst; rw [n i hi, hf (25 + i) (by omega)]; exact h
  refine ⟨⟨nr, nc, by rw [hf 23 (by omega)]; exact a1, by rw [hf 24 (by omega)]; exact a2, a3, a4⟩, fun k hk => ?_, ll 0 (by omega) h3, ll 1 (by omega) h4, ll 2 (by omega) h5, fun c hc => ?_⟩
  · rw [hf 0 (by omega), hf 2 (by omega), n 0 (by omega)]
    exact h2 k hk
  · rw [hf 19 (by omega), n 1 (by omega)]
    rw [n 2 (by omega)] at hc
    exact h6 c hc
theorem fPl_in {Z : zM} {nr nc a b : Nat} (h1 : Z 23 0 = nI nr) (h2 : Z 24 0 = nI nc) (h3 : nr ≤ 8) (h4 : nc ≤ 10) (ha : a < nr) (hb : b < nc) : fPl Z (nI a) (nI b) = some (a * 10 + b) := by
  unfold fPl
  rw [h1, h2, if_pos ⟨nI_pos' (by omega), nI_lt ha (by omega), nI_pos' (by omega), nI_lt hb (by omega)⟩, nI_clamp (by omega), nI_clamp (by omega)]
set_option maxRecDepth 100000 in
set_option maxHeartbeats 4000000 in
theorem c_X1_soundSeat {G : zG} {l : Launch} (hl : l.stackTraces = false) {Z : zM} {sb : Nat → Option Nat} {mcn : Nat → Int32} {cp : Nat → Nat} {Y : zM} {th : Int32} {o : Nat → Int64} {od : Nat → UInt64} {ad : Nat → Nat} (hv : zInv Z cp) {nr nc a b : Nat} (e1 : Z 23 0 = nI nr) (e2 : Z 24 0 = nI nc) (l1 : nr ≤ 8) (l2 : nc ≤ 10) (ha : a < nr) (hb : b < nc) : zCt G l yX1_soundSeat (zws yX1_soundSeat cX1_soundSeat 5 none) ({ frames := 4, cells := 0, slots := 0, locals := 88 }) [.ref (ad 4), .ref (ad 1), .int (nI a), .int (nI b)] (zent Z sb mcn cp G.2.2.2.1 Y th o od ad) ad (fun r w1 ad1 => none = r ∧ zent (fSits Z a b) sb mcn cp G.2.2.2.1 Y th o od ad = w1 ∧ ad = ad1) (zNoX) := by
  refine z_body hl (by decide +kernel) (Nat.le_of_ble_eq_true rfl) (fun X O => ?_)
  have hk : a * 10 + b < 80 := by omega
  obtain ⟨hh, hse, hL0, -, hL2, -⟩ := hv
  obtain ⟨hs1, hs2, hs3⟩ := hse _ hk
  refine z_aload_n O dX1_soundSeat_0 rfl ?_
  refine z_iload_n O dX1_soundSeat_1 rfl ?_
  refine z_iload_n O dX1_soundSeat_2 rfl ?_
  refine z_callV O (c_X3_seatOrNull hl hh (x := nI a) (y := nI b)) zI zm1_63 zm0_68 zm0_69 zm1_0 zm0_62 ⟨rfl, by decide +kernel, by decide +kernel, (show _ = some 2 by decide +kernel)⟩ rfl (zg_house) ⟨Nat.le_of_ble_eq_true rfl, Nat.le_of_ble_eq_true rfl⟩ ⟨Nat.le_of_ble_eq_true rfl, Nat.le_of_ble_eq_true rfl⟩ dX1_soundSeat_3 rfl (Nat.le_of_ble_eq_true rfl) (fun _ _ _ h => h.elim) (fun r w1 ad1 hp => ?_)
  obtain ⟨rfl, rfl, rfl⟩ := hp
  rw [fPl_in e1 e2 l1 l2 ha hb]
  refine z_astore O dX1_soundSeat_6 (by decide) ?_
  refine z_aload O dX1_soundSeat_8 rfl ?_
  refine z_ifnonnull O dX1_soundSeat_10 (tgt := 14) (by decide) ?_
  refine z_aload O dX1_soundSeat_14 rfl ?_
  refine z_get O (fk := 0) (fun x h => zI x (zu_RX4 x h)) rfl (by decide) (zI _ zm1_59) dX1_soundSeat_16 (zg_seat (k := a * 10 + b) hk) rfl ?_
  refine z_bipush O dX1_soundSeat_19 (v := 112) (by decide) ?_
  refine z_icmp_ne O dX1_soundSeat_21 (tgt := 38) (by decide) (fun g => ?_) (fun g => ?_)
  · refine z_aload O dX1_soundSeat_38 rfl ?_
    refine z_get O (fk := 0) (fun x h => zI x (zu_RX4 x h)) rfl (by decide) (zI _ zm1_59) dX1_soundSeat_40 (zg_seat (k := a * 10 + b) hk) rfl ?_
    refine z_bipush O dX1_soundSeat_43 (v := 114) (by decide) ?_
    refine z_icmp_ne O dX1_soundSeat_45 (tgt := 94) (by decide) (fun g2 => ?_) (fun g2 => ?_)
    · refine z_aload O dX1_soundSeat_94 rfl ?_
      cases hz : zh (Z 2 (a * 10 + b)) with
      | none =>
        refine z_get O (fk := 2) (v := .null) (fun x h => zI x (zu_RX4 x h)) rfl (by decide) (zI _ zm1_61) dX1_soundSeat_96 (zg_seat (k := a * 10 + b) hk) (by simp only [sSeat, hz]; rfl) ?_
        refine z_ifnullN O dX1_soundSeat_99 (tgt := 116) (by decide) ?_
        exact z_vret O dX1_soundSeat_116 (Nat.le_of_ble_eq_true rfl) (Nat.le_of_ble_eq_true rfl) (⟨rfl, by unfold fSits; rw [if_neg g, if_neg g2, hz], rfl⟩)
      | some j =>
        obtain ⟨hj, hj2⟩ := hs3 j hz
        refine z_get O (fk := 2) (v := .ref (ad (200 + j))) (fun x h => zI x (zu_RX4 x h)) rfl (by decide) (zI _ zm1_61) dX1_soundSeat_96 (zg_seat (k := a * 10 + b) hk) (by simp only [sSeat, hz]; rfl) ?_
        refine z_ifnull O dX1_soundSeat_99 ?_
        refine z_aload O dX1_soundSeat_102 rfl ?_
        refine z_aload_n O dX1_soundSeat_104 rfl ?_
        refine z_aload O dX1_soundSeat_105 rfl ?_
        refine z_get O (fk := 2) (v := .ref (ad (200 + j))) (fun x h => zI x (zu_RX4 x h)) rfl (by decide) (zI _ zm1_61) dX1_soundSeat_107 (zg_seat (k := a * 10 + b) hk) (by simp only [sSeat, hz]; rfl) ?_
        refine z_callV O (c_X1_noiseOf hl hL2 hj hj2) zI zm2_0 zm2_1 zm2_2 zm1_44 zm1_58 ⟨rfl, by decide +kernel, by decide +kernel, (show _ = some 1 by decide +kernel)⟩ rfl (zg_ev) ⟨Nat.le_of_ble_eq_true rfl, Nat.le_of_ble_eq_true rfl⟩ ⟨Nat.le_of_ble_eq_true rfl, Nat.le_of_ble_eq_true rfl⟩ dX1_soundSeat_110 rfl (Nat.le_of_ble_eq_true rfl) (fun _ _ _ h => h.elim) (fun r w1 ad1 hp => ?_)
        obtain ⟨rfl, rfl, rfl⟩ := hp
        refine z_put O (fk := 3) (fun x h => zI x (zu_RX4 x h)) tyX4 tyX4_ok nmX4 rfl (by decide) (zI _ zm1_62) rfl dX1_soundSeat_113 rfl rfl (zg_seat (k := a * 10 + b) hk) (Nat.le_of_ble_eq_true rfl) (zp_seat_noise hk) ?_
        exact z_vret O dX1_soundSeat_116 (Nat.le_of_ble_eq_true rfl) (Nat.le_of_ble_eq_true rfl) (⟨rfl, by unfold fSits; rw [if_neg g, if_neg g2, hz], rfl⟩)
    · refine z_aload O dX1_soundSeat_48 rfl ?_
      refine z_aload_n O dX1_soundSeat_50 rfl ?_
      refine z_iload_n O dX1_soundSeat_51 rfl ?_
      refine z_iload_n O dX1_soundSeat_52 rfl ?_
      refine z_callV O (c_X3_around hl hh (a := a) (b := b) (by omega) (by omega)) zI zm1_64 zm1_65 zm1_66 zm1_0 zm0_66 ⟨rfl, by decide +kernel, by decide +kernel, (show _ = some 2 by decide +kernel)⟩ rfl (zg_house) ⟨Nat.le_of_ble_eq_true rfl, Nat.le_of_ble_eq_true rfl⟩ ⟨Nat.le_of_ble_eq_true rfl, Nat.le_of_ble_eq_true rfl⟩ dX1_soundSeat_53 rfl (Nat.le_of_ble_eq_true rfl) (fun _ _ _ h => h.elim) (fun r w1 ad1 hp => ?_)
      obtain ⟨rfl, rfl, rfl⟩ := hp
      refine z_bipush O dX1_soundSeat_56 (v := 12) (by decide) ?_
      refine z_icmp_lt O dX1_soundSeat_58 (tgt := 65) (by decide) (fun g3 => ?_) (fun g3 => ?_)
      · refine z_iconst O dX1_soundSeat_65 (v := 0) (by decide) ?_
        refine z_put O (fk := 7) (fun x h => zI x (zu_RX4 x h)) tyX4 tyX4_ok nmX4 rfl (by decide) (zI _ zm1_60) rfl dX1_soundSeat_66 (by decide) rfl (zg_seat (k := a * 10 + b) hk) (Nat.le_of_ble_eq_true rfl) (zp_seat_hissed hk) ?_
        refine z_aload_n O dX1_soundSeat_69 rfl ?_
        refine z_dup O dX1_soundSeat_70 rfl ?_
        refine z_get O (fk := 5) (fun x h => zI x (zu_RX1 x h)) rfl (by decide) (zI _ zm0_37) dX1_soundSeat_71 (zg_ev) rfl ?_
        refine z_aload O dX1_soundSeat_74 rfl ?_
        refine z_get O (fk := 7) (v := .int 0) (fun x h => zI x (zu_RX4 x h)) rfl (by decide) (zI _ zm1_60) dX1_soundSeat_76 (zg_seat (k := a * 10 + b) hk) (by simp only [sSeat, zu_s]; rfl) ?_
        refine z_if_eq O dX1_soundSeat_79 (tgt := 86) (by decide) (fun _ => ?_) (fun q => absurd rfl q)
        refine z_iconst O dX1_soundSeat_86 (v := 0) (by decide) ?_
        refine z_iadd O dX1_soundSeat_87 ?_
        refine z_put O (fk := 5) (fun x h => zI x (zu_RX1 x h)) tyX1 tyX1_ok nmX1 rfl (by decide) (zI _ zm0_37) rfl dX1_soundSeat_88 rfl rfl (zg_ev) (Nat.le_of_ble_eq_true rfl) (zp_ev (F := 32) (p := 5) (by decide) rfl) ?_
        refine z_goto O dX1_soundSeat_91 (tgt := 116) (by decide) ?_
        exact z_vret O dX1_soundSeat_116 (Nat.le_of_ble_eq_true rfl) (Nat.le_of_ble_eq_true rfl) (⟨rfl, by unfold fSits; rw [if_neg g, if_pos g2, if_pos g3]; rfl, rfl⟩)
      · refine z_iconst O dX1_soundSeat_61 (v := 1) (by decide) ?_
        refine z_goto O dX1_soundSeat_62 (tgt := 66) (by decide) ?_
        refine z_put O (fk := 7) (fun x h => zI x (zu_RX4 x h)) tyX4 tyX4_ok nmX4 rfl (by decide) (zI _ zm1_60) rfl dX1_soundSeat_66 (by decide) rfl (zg_seat (k := a * 10 + b) hk) (Nat.le_of_ble_eq_true rfl) (zp_seat_hissed hk) ?_
        refine z_aload_n O dX1_soundSeat_69 rfl ?_
        refine z_dup O dX1_soundSeat_70 rfl ?_
        refine z_get O (fk := 5) (fun x h => zI x (zu_RX1 x h)) rfl (by decide) (zI _ zm0_37) dX1_soundSeat_71 (zg_ev) rfl ?_
        refine z_aload O dX1_soundSeat_74 rfl ?_
        refine z_get O (fk := 7) (v := .int 1) (fun x h => zI x (zu_RX4 x h)) rfl (by decide) (zI _ zm1_60) dX1_soundSeat_76 (zg_seat (k := a * 10 + b) hk) (by simp only [sSeat, zu_s]; rfl) ?_
        refine z_if_eq O dX1_soundSeat_79 (tgt := 86) (by decide) (fun q => absurd q (by decide)) (fun _ => ?_)
        refine z_iconst O dX1_soundSeat_82 (v := 1) (by decide) ?_
        refine z_goto O dX1_soundSeat_83 (tgt := 87) (by decide) ?_
        refine z_iadd O dX1_soundSeat_87 ?_
        refine z_put O (fk := 5) (fun x h => zI x (zu_RX1 x h)) tyX1 tyX1_ok nmX1 rfl (by decide) (zI _ zm0_37) rfl dX1_soundSeat_88 rfl rfl (zg_ev) (Nat.le_of_ble_eq_true rfl) (zp_ev (F := 32) (p := 5) (by decide) rfl) ?_
        refine z_goto O dX1_soundSeat_91 (tgt := 116) (by decide) ?_
        exact z_vret O dX1_soundSeat_116 (Nat.le_of_ble_eq_true rfl) (Nat.le_of_ble_eq_true rfl) (⟨rfl, by unfold fSits; rw [if_neg g, if_pos g2, if_neg g3]; rfl, rfl⟩)
  · refine z_aload O dX1_soundSeat_24 rfl ?_
    refine z_aload_n O dX1_soundSeat_26 rfl ?_
    refine z_iload_n O dX1_soundSeat_27 rfl ?_
    refine z_iload_n O dX1_soundSeat_28 rfl ?_
    refine z_callV O (c_X3_around hl hh (a := a) (b := b) (by omega) (by omega)) zI zm1_64 zm1_65 zm1_66 zm1_0 zm0_66 ⟨rfl, by decide +kernel, by decide +kernel, (show _ = some 2 by decide +kernel)⟩ rfl (zg_house) ⟨Nat.le_of_ble_eq_true rfl, Nat.le_of_ble_eq_true rfl⟩ ⟨Nat.le_of_ble_eq_true rfl, Nat.le_of_ble_eq_true rfl⟩ dX1_soundSeat_29 rfl (Nat.le_of_ble_eq_true rfl) (fun _ _ _ h => h.elim) (fun r w1 ad1 hp => ?_)
    obtain ⟨rfl, rfl, rfl⟩ := hp
    refine z_callV O (c_X4_soundAsPayer hl hk (a := fAround Z a b)) zI zm1_67 zm1_68 zm1_69 zm0_61 zm1_6 ⟨rfl, by decide +kernel, by decide +kernel, (show _ = some 1 by decide +kernel)⟩ rfl (zg_seat (k := a * 10 + b) hk) ⟨Nat.le_of_ble_eq_true rfl, Nat.le_of_ble_eq_true rfl⟩ ⟨Nat.le_of_ble_eq_true rfl, Nat.le_of_ble_eq_true rfl⟩ dX1_soundSeat_32 rfl (Nat.le_of_ble_eq_true rfl) (fun _ _ _ h => h.elim) (fun r w1 ad1 hp => ?_)
    obtain ⟨rfl, rfl, rfl⟩ := hp
    refine z_goto O dX1_soundSeat_35 (tgt := 116) (by decide) ?_
    exact z_vret O dX1_soundSeat_116 (Nat.le_of_ble_eq_true rfl) (Nat.le_of_ble_eq_true rfl) (⟨rfl, by unfold fSits; rw [if_pos g], rfl⟩)

def fTickEnd (Z : zM) : zM := zu (fJudge (fHear Z (fSum (Z 3) 80)) (fNoisy (fHear Z (fSum (Z 3) 80)) 112) (fNoisy (fHear Z (fSum (Z 3) 80)) 104)) 29 0 (fJudge (fHear Z (fSum (Z 3) 80)) (fNoisy (fHear Z (fSum (Z 3) 80)) 112) (fNoisy (fHear Z (fSum (Z 3) 80)) 104) 29 0 + 1)
def fTick (Z : zM) (nr nc : Nat) : zM := fTickEnd (fTickRows (fIter fKeep Z 80) nc nr)
theorem zFr_end (Z : zM) : zFr Z (fTickEnd Z) := ((zFr_hear _ _).tr (zFr_judge _ _ _)).zu (by decide)
theorem zFr_tick (Z : zM) (nr nc : Nat) : zFr Z (fTick Z nr nc) := ((zFr_keep Z 80).tr (zFr_rows _ _ _)).tr (zFr_end _)
set_option maxRecDepth 100000 in
set_option maxHeartbeats 4000000 in
theorem c_X1_passTick {G : zG} {l : Launch} (hl : l.stackTraces = false) {Z : zM} {sb : Nat → Option Nat} {mcn : Nat → Int32} {cp : Nat → Nat} {Y : zM} {th : Int32} {o : Nat → Int64} {od : Nat → UInt64} {ad : Nat → Nat} (hv : zInv Z cp) (hb7 : ∀ k, k < 80 → zBol (Z 7 k)) {nr nc : Nat} (e1 : Z 23 0 = nI nr) (e2 : Z 24 0 = nI nc) (l1 : nr ≤ 8) (l2 : nc ≤ 10) : zCt G l yX1_passTick (zws yX1_passTick cX1_passTick 4 none) ({ frames := 5, cells := 0, slots := 0, locals := 112 }) [.ref (ad 4), .ref (ad 1)] (zent Z sb mcn cp G.2.2.2.1 Y th o od ad) ad (fun r w1 ad1 => none = r ∧ zent (fTick Z nr nc) sb mcn cp G.2.2.2.1 Y th o od ad = w1 ∧ ad = ad1) (zNoX) := by
  refine z_body hl (by decide +kernel) (Nat.le_of_ble_eq_true rfl) (fun X O => ?_)
  have L : ∀ (n : Nat) (a : Nat), a ≤ nr → nr < a + n → zV G X 4 0 0 6 [(0, .ref (ad 4)), (1, .ref (ad 1)), (2, .int (nI a))] [] (zent (fTickRows (fIter fKeep Z 80) nc a) sb mcn cp G.2.2.2.1 Y th o od ad) ad := by
    intro n
    induction n with
    | zero => intro a h1 h2; omega
    | succ n ih =>
      intro a h1 h2
      have fA : zFr Z (fTickRows (fIter fKeep Z 80) nc a) := (zFr_keep Z 80).tr (zFr_rows _ nc a)
      refine z_iload_n O dX1_passTick_6 rfl ?_
      refine z_aload_n O dX1_passTick_7 rfl ?_
      refine z_get O (fk := 1) (v := .int (nI nr)) (fun x h => zI x (zu_RX3 x h)) rfl (by decide) (zI _ zm2_18) dX1_passTick_8 (zg_house) (by show some (Value.int ((fTickRows (fIter fKeep Z 80) nc a) 23 0)) = _; rw [fA 23 (by omega), e1]) ?_
      refine z_icmp_ge O dX1_passTick_11 (tgt := 43) (by decide) (fun h => ?_) (fun h => ?_)
      · have hi : a = nr := by have := z_ge_ge (by omega) (by omega) h; omega
        subst hi
        have hvA := hv.fr fA
        obtain ⟨Z2, hZ2⟩ : ∃ z, z = (fTickRows (fIter fKeep Z 80) nc a) := ⟨_, rfl⟩
        rw [← hZ2] at hvA ⊢
        refine z_aload_n O dX1_passTick_43 rfl ?_
        refine z_aload_n O dX1_passTick_44 rfl ?_
        refine z_callV O (c_X3_noiseSum hl) zI zm2_26 zm2_27 zm2_28 zm1_0 zm2_4 ⟨rfl, by decide +kernel, by decide +kernel, (show _ = some 0 by decide +kernel)⟩ rfl (zg_house) ⟨Nat.le_of_ble_eq_true rfl, Nat.le_of_ble_eq_true rfl⟩ ⟨Nat.le_of_ble_eq_true rfl, Nat.le_of_ble_eq_true rfl⟩ dX1_passTick_45 rfl (Nat.le_of_ble_eq_true rfl) (fun _ _ _ h => h.elim) (fun r w1 ad1 hp => ?_)
        obtain ⟨rfl, rfl, rfl⟩ := hp
        refine z_callV O (c_X1_hearNoise hl hvA.2.2.2.2.1 hvA.2.2.2.2.2 hvA.2.2.2.1.2.2.2 (x := fSum (Z2 3) 80)) zI zm2_29 zm2_30 zm2_31 zm1_44 zm2_13 ⟨rfl, by decide +kernel, by decide +kernel, (show _ = some 1 by decide +kernel)⟩ rfl (zg_ev) ⟨Nat.le_of_ble_eq_true rfl, Nat.le_of_ble_eq_true rfl⟩ ⟨Nat.le_of_ble_eq_true rfl, Nat.le_of_ble_eq_true rfl⟩ dX1_passTick_48 rfl (Nat.le_of_ble_eq_true rfl) (fun _ _ _ h => h.elim) (fun r w1 ad1 hp => ?_)
        obtain ⟨rfl, rfl, rfl⟩ := hp
        have hv3 := hvA.fr (zFr_hear Z2 (fSum (Z2 3) 80))
        refine z_aload_n O dX1_passTick_51 rfl ?_
        refine z_aload_n O dX1_passTick_52 rfl ?_
        refine z_bipush O dX1_passTick_53 (v := 112) (by decide) ?_
        refine z_callV O (c_X3_countNoisy hl (ch := 112)) zI zm2_32 zm2_33 zm2_34 zm1_0 zm2_14 ⟨rfl, by decide +kernel, by decide +kernel, (show _ = some 1 by decide +kernel)⟩ rfl (zg_house) ⟨Nat.le_of_ble_eq_true rfl, Nat.le_of_ble_eq_true rfl⟩ ⟨Nat.le_of_ble_eq_true rfl, Nat.le_of_ble_eq_true rfl⟩ dX1_passTick_55 rfl (Nat.le_of_ble_eq_true rfl) (fun _ _ _ h => h.elim) (fun r w1 ad1 hp => ?_)
        obtain ⟨rfl, rfl, rfl⟩ := hp
        refine z_aload_n O dX1_passTick_58 rfl ?_
        refine z_bipush O dX1_passTick_59 (v := 104) (by decide) ?_
        refine z_callV O (c_X3_countNoisy hl (ch := 104)) zI zm2_32 zm2_33 zm2_34 zm1_0 zm2_14 ⟨rfl, by decide +kernel, by decide +kernel, (show _ = some 1 by decide +kernel)⟩ rfl (zg_house) ⟨Nat.le_of_ble_eq_true rfl, Nat.le_of_ble_eq_true rfl⟩ ⟨Nat.le_of_ble_eq_true rfl, Nat.le_of_ble_eq_true rfl⟩ dX1_passTick_61 rfl (Nat.le_of_ble_eq_true rfl) (fun _ _ _ h => h.elim) (fun r w1 ad1 hp => ?_)
        obtain ⟨rfl, rfl, rfl⟩ := hp
        refine z_callV O (c_X1_judgeCues hl hv3.2.2.2.2.1) zI zm2_35 zm2_36 zm2_37 zm1_44 zm2_17 ⟨rfl, by decide +kernel, by decide +kernel, (show _ = some 2 by decide +kernel)⟩ rfl (zg_ev) ⟨Nat.le_of_ble_eq_true rfl, Nat.le_of_ble_eq_true rfl⟩ ⟨Nat.le_of_ble_eq_true rfl, Nat.le_of_ble_eq_true rfl⟩ dX1_passTick_64 rfl (Nat.le_of_ble_eq_true rfl) (fun _ _ _ h => h.elim) (fun r w1 ad1 hp => ?_)
        obtain ⟨rfl, rfl, rfl⟩ := hp
        refine z_aload_n O dX1_passTick_67 rfl ?_
        refine z_dup O dX1_passTick_68 rfl ?_
        refine z_get O (fk := 2) (fun x h => zI x (zu_RX1 x h)) rfl (by decide) (zI _ zm0_34) dX1_passTick_69 (zg_ev) rfl ?_
        refine z_iconst O dX1_passTick_72 (v := 1) (by decide) ?_
        refine z_iadd O dX1_passTick_73 ?_
        refine z_put O (fk := 2) (fun x h => zI x (zu_RX1 x h)) tyX1 tyX1_ok nmX1 rfl (by decide) (zI _ zm0_34) rfl dX1_passTick_74 rfl rfl (zg_ev) (Nat.le_of_ble_eq_true rfl) (zp_ev (F := 29) (p := 2) (by decide) rfl) ?_
        exact z_vret O dX1_passTick_77 (Nat.le_of_ble_eq_true rfl) (Nat.le_of_ble_eq_true rfl) (⟨rfl, by unfold fTick; rw [← hZ2]; rfl, rfl⟩)
      · have hi : a < nr := z_ge_lt (by omega) (by omega) h
        have ihO := ih
        have L2 : ∀ (n : Nat) (b : Nat), b ≤ nc → nc < b + n → zV G X 4 0 0 16 [(0, .ref (ad 4)), (1, .ref (ad 1)), (2, .int (nI a)), (3, .int (nI b))] [] (zent (fTickRow (fTickRows (fIter fKeep Z 80) nc a) a b) sb mcn cp G.2.2.2.1 Y th o od ad) ad := by
          intro n
          induction n with
          | zero => intro b h3 h4; omega
          | succ n ih =>
            intro b h3 h4
            have fB : zFr Z (fTickRow (fTickRows (fIter fKeep Z 80) nc a) a b) := ((zFr_keep Z 80).tr (zFr_rows _ nc a)).tr (zFr_row _ a b)
            refine z_iload_n O dX1_passTick_16 rfl ?_
            refine z_aload_n O dX1_passTick_17 rfl ?_
            refine z_get O (fk := 2) (v := .int (nI nc)) (fun x h => zI x (zu_RX3 x h)) rfl (by decide) (zI _ zm2_19) dX1_passTick_18 (zg_house) (by show some (Value.int ((fTickRow (fTickRows (fIter fKeep Z 80) nc a) a b) 24 0)) = _; rw [fB 24 (by omega), e2]) ?_
            refine z_icmp_ge O dX1_passTick_21 (tgt := 37) (by decide) (fun h9 => ?_) (fun h9 => ?_)
            · have hj : b = nc := by have := z_ge_ge (by omega) (by omega) h9; omega
              subst hj
              refine z_iincN O dX1_passTick_37 (a := a) rfl (by decide) ?_
              refine z_goto O dX1_passTick_40 (tgt := 6) (by decide) ?_
              exact zV.loc (ihO (a + 1) (by omega) (by omega)) ⟨rfl, rfl, rfl, trivial⟩
            · have hj : b < nc := z_ge_lt (by omega) (by omega) h9
              refine z_aload_n O dX1_passTick_24 rfl ?_
              refine z_aload_n O dX1_passTick_25 rfl ?_
              refine z_iload_n O dX1_passTick_26 rfl ?_
              refine z_iload_n O dX1_passTick_27 rfl ?_
              refine z_callV O (c_X1_soundSeat hl (hv.fr fB) (nr := nr) (nc := nc) (a := a) (b := b) (by rw [fB 23 (by omega), e1]) (by rw [fB 24 (by omega), e2]) l1 l2 hi hj) zI zm2_23 zm2_24 zm2_25 zm1_44 zm2_3 ⟨rfl, by decide +kernel, by decide +kernel, (show _ = some 3 by decide +kernel)⟩ rfl (zg_ev) ⟨Nat.le_of_ble_eq_true rfl, Nat.le_of_ble_eq_true rfl⟩ ⟨Nat.le_of_ble_eq_true rfl, Nat.le_of_ble_eq_true rfl⟩ dX1_passTick_28 rfl (Nat.le_of_ble_eq_true rfl) (fun _ _ _ h => h.elim) (fun r w1 ad1 hp => ?_)
              obtain ⟨rfl, rfl, rfl⟩ := hp
              refine z_iincN O dX1_passTick_31 (a := b) rfl (by decide) ?_
              refine z_goto O dX1_passTick_34 (tgt := 16) (by decide) ?_
              exact zV.loc (ih (b + 1) (by omega) (by omega)) ⟨rfl, rfl, rfl, rfl, trivial⟩
        refine z_iconst O dX1_passTick_14 (v := 0) (by decide) ?_
        refine z_istore_n O dX1_passTick_15 (by decide) ?_
        exact zV.loc (L2 (nc + 1) 0 (by omega) (by omega)) ⟨rfl, rfl, rfl, rfl, trivial⟩
  refine z_aload_n O dX1_passTick_0 rfl ?_
  refine z_callV O (c_X3_keepTickAhead hl hb7) zI zm2_20 zm2_21 zm2_22 zm1_0 zm0_56 ⟨rfl, by decide +kernel, by decide +kernel, (show _ = some 0 by decide +kernel)⟩ rfl (zg_house) ⟨Nat.le_of_ble_eq_true rfl, Nat.le_of_ble_eq_true rfl⟩ ⟨Nat.le_of_ble_eq_true rfl, Nat.le_of_ble_eq_true rfl⟩ dX1_passTick_1 rfl (Nat.le_of_ble_eq_true rfl) (fun _ _ _ h => h.elim) (fun r w1 ad1 hp => ?_)
  obtain ⟨rfl, rfl, rfl⟩ := hp
  refine z_iconst O dX1_passTick_4 (v := 0) (by decide) ?_
  refine z_istore_n O dX1_passTick_5 (by decide) ?_
  exact zV.loc (L (nr + 1) 0 (by omega) (by omega)) ⟨rfl, rfl, rfl, trivial⟩
end
section
theorem z_sl : ∀ n, n < 32 → ((nI n &&& 31).toBitVec.smod 32).toNat = n := by decide +kernel
def fBit (P j : Nat) : Nat := P / 2 ^ j % 2
theorem fBit_sh {P j : Nat} (hP : P < 2 ^ 31) (hj : j < 32) : (nI P >>> (nI j &&& 31)) &&& 1 = nI (fBit P j) := by
  rw [pk_shrN hP _ j (z_sl j hj)]
  have h1 : P / 2 ^ j < 2 ^ 32 := Nat.lt_of_le_of_lt (Nat.div_le_self _ _) (by omega)
  rw [pk_andN h1 1 (by decide)]
  rfl
theorem fBit_2 (P j : Nat) : fBit P j = 0 ∨ fBit P j = 1 := by unfold fBit; omega
/-- of the hands in a plan, the sum of a table -/
def fOf (Z : zM) (F P : Nat) (n : Nat) : Int32 := fSum (fun j => if fBit P j = 1 then Z F j else 0) n
def fCnt (P : Nat) : Int32 := fSum (fun j => if fBit P j = 1 then 1 else 0) 12
def fBetter (Z : zM) (n P Q : Nat) : Prop := (fOf Z 13 P n ≠ fOf Z 13 Q n ∧ fOf Z 13 P n < fOf Z 13 Q n) ∨ (fOf Z 13 P n = fOf Z 13 Q n ∧ ((fCnt P ≠ fCnt Q ∧ fCnt P < fCnt Q) ∨ (fCnt P = fCnt Q ∧ (nI P &&& (nI P ^^^ nI Q)) &&& -(nI P ^^^ nI Q) ≠ 0)))
/-- the best of the plans below k, 0 for none, decided by 'better' -/
def fPlan (Z : zM) (n : Nat) (wd : Int32) (bt : Nat → Nat → Bool) : Nat → Nat
  | 0 => 0
  | k + 1 => if k = 0 then 0 else if wd ≤ fOf Z 11 k n ∧ (fPlan Z n wd bt k = 0 ∨ bt k (fPlan Z n wd bt k) = true) then k else fPlan Z n wd bt k
theorem fPlan_lt (Z : zM) (n : Nat) (wd : Int32) (bt : Nat → Nat → Bool) : ∀ k, 0 < k → fPlan Z n wd bt k < k
  | 0, h => absurd h (by omega)
  | k + 1, _ => by
    unfold fPlan
    split
    · omega
    · split
      · omega
      · have := fPlan_lt Z n wd bt k (by omega); omega
def fPt (Z : zM) : Nat → Int32
  | 0 => 5
  | j + 1 => fPt Z j + (Z 12 j + 1)
def fCut (x : Int64) (p : Int32) : Int32 := if p = 0 then 0 else (x / p.toInt64).toInt32
def fGot (Z : zM) (m P : Int32) (j : Nat) : Int32 := fCut (m.toInt64 * (Z 12 j + 1).toInt64) P
def fShZ (Z : zM) (m P : Int32) : Nat → zM
  | 0 => Z
  | j + 1 => zu (fShZ Z m P j) 14 j (fShZ Z m P j 14 j + fGot Z m P j)
def fShR (Z : zM) (m P : Int32) : Nat → Int32
  | 0 => m
  | j + 1 => fShR Z m P j - fGot Z m P j
theorem fShZ_n (Z : zM) (m P : Int32) {f : Nat} (hf : f ≠ 14) : ∀ j k, fShZ Z m P j f k = Z f k
  | 0, _ => rfl
  | j + 1, k => by show zu _ 14 j _ f k = _; rw [zu_f hf]; exact fShZ_n Z m P hf j k
set_option maxRecDepth 100000 in
set_option maxHeartbeats 4000000 in
theorem c_X6_holds {G : zG} {l : Launch} (hl : l.stackTraces = false) {Z : zM} {sb : Nat → Option Nat} {mcn : Nat → Int32} {cp : Nat → Nat} {Y : zM} {th : Int32} {o : Nat → Int64} {od : Nat → UInt64} {ad : Nat → Nat} {P j : Nat} (hP : P < 2 ^ 31) (hj : j < 32) : zCt G l yX6_holds (zws yX6_holds cX6_holds 2 (some .boolean)) ({ frames := 0, cells := 0, slots := 0, locals := 0 }) [.int (nI P), .int (nI j)] (zent Z sb mcn cp G.2.2.2.1 Y th o od ad) ad (fun r w1 ad1 => some (.int (if fBit P j = 1 then 1 else 0)) = r ∧ zent Z sb mcn cp G.2.2.2.1 Y th o od ad = w1 ∧ ad = ad1) (zNoX) := by
  refine z_body hl (by decide +kernel) (Nat.le_of_ble_eq_true rfl) (fun X O => ?_)
  refine z_iload_n O dX6_holds_0 rfl ?_
  refine z_iload_n O dX6_holds_1 rfl ?_
  refine z_ishr O dX6_holds_2 ?_
  refine z_iconst O dX6_holds_3 (v := 1) (by decide) ?_
  refine z_iand O dX6_holds_4 ?_
  rw [fBit_sh hP hj]
  rcases fBit_2 P j with hb | hb
  all_goals rw [hb]
  · refine z_if_eq O dX6_holds_5 (tgt := 12) (by decide) (fun _ => ?_) (fun g => absurd rfl g)
    refine z_iconst O dX6_holds_12 (v := 0) (by decide) ?_
    exact z_zret O rfl rfl dX6_holds_13 (Nat.le_of_ble_eq_true rfl) (Nat.le_of_ble_eq_true rfl) (⟨by rw [hb]; rfl, rfl, rfl⟩)
  · refine z_if_eq O dX6_holds_5 (tgt := 12) (by decide) (fun g => absurd g (by decide)) (fun _ => ?_)
    refine z_iconst O dX6_holds_8 (v := 1) (by decide) ?_
    refine z_goto O dX6_holds_9 (tgt := 13) (by decide) ?_
    exact z_zret O rfl rfl dX6_holds_13 (Nat.le_of_ble_eq_true rfl) (Nat.le_of_ble_eq_true rfl) (⟨by rw [hb]; rfl, rfl, rfl⟩)

set_option maxRecDepth 100000 in
set_option maxHeartbeats 4000000 in
theorem c_X6_priceOf {G : zG} {l : Launch} (hl : l.stackTraces = false) {Z : zM} {sb : Nat → Option Nat} {mcn : Nat → Int32} {cp : Nat → Nat} {Y : zM} {th : Int32} {o : Nat → Int64} {od : Nat → UInt64} {ad : Nat → Nat} (hL0 : zLst Z cp 0) {P : Nat} (hP : P < 2 ^ 31) : zCt G l yX6_priceOf (zws yX6_priceOf cX6_priceOf 4 (some .int)) ({ frames := 3, cells := 0, slots := 0, locals := 64 }) [.ref (ad 3), .int (nI P)] (zent Z sb mcn cp G.2.2.2.1 Y th o od ad) ad (fun r w1 ad1 => some (.int (fOf Z 13 P (zN Z 0))) = r ∧ zent Z sb mcn cp G.2.2.2.1 Y th o od ad = w1 ∧ ad = ad1) (zNoX) := by
  refine z_body hl (by decide +kernel) (Nat.le_of_ble_eq_true rfl) (fun X O => ?_)
  have L : ∀ (n : Nat) (i : Nat) (acc : Int32), i ≤ zN Z 0 → zN Z 0 < i + n → acc = fSum (fun j => if fBit P j = 1 then Z 13 j else 0) i → zV G X 4 0 0 4 [(0, .ref (ad 3)), (1, .int (nI P)), (2, .int acc), (3, .int (nI i))] [] (zent Z sb mcn cp G.2.2.2.1 Y th o od ad) ad := by
    intro n
    induction n with
    | zero => intro i acc h1 h2 hacc; omega
    | succ n ih =>
      intro i acc h1 h2 hacc
      refine z_iload_n O dX6_priceOf_4 rfl ?_
      refine z_aload_n O dX6_priceOf_5 rfl ?_
      refine z_get O (fk := 0) (fun x h => zI x (zu_RX6 x h)) rfl (by decide) (zI _ zm3_16) dX6_priceOf_6 (zg_tr) rfl ?_
      refine z_callV O (c_size_l hl (i := 0) (by decide) hL0) zI zm3_22 zm1_46 zm1_47 zm0_31 zm1_19 ⟨rfl, by decide +kernel, by decide +kernel, (show _ = some 0 by decide +kernel)⟩ rfl ((zg_list0 (i := 0) (by decide) hL0)) ⟨Nat.le_of_ble_eq_true rfl, Nat.le_of_ble_eq_true rfl⟩ ⟨Nat.le_of_ble_eq_true rfl, Nat.le_of_ble_eq_true rfl⟩ dX6_priceOf_9 rfl (Nat.le_of_ble_eq_true rfl) (fun _ _ _ h => h.elim) (fun r w1 ad1 hp => ?_)
      obtain ⟨rfl, rfl, rfl⟩ := hp
      refine z_icmp_ge O dX6_priceOf_12 (tgt := 46) (by decide) (fun h => ?_) (fun h => ?_)
      · have hi : i = zN Z 0 := by have := z_ge_ge (by have := hL0.2.2.2; omega) (by have := hL0.2.2.2; omega) h; omega
        subst hi
        refine z_iload_n O dX6_priceOf_46 rfl ?_
        exact z_iret O dX6_priceOf_47 (Nat.le_of_ble_eq_true rfl) (Nat.le_of_ble_eq_true rfl) (⟨by subst hacc; rfl, rfl, rfl⟩)
      · have hi : i < zN Z 0 := z_ge_lt (by have := hL0.2.2.2; omega) (by have := hL0.2.2.2; omega) h
        have hi20 : i < 20 := by have := hL0.2.2.2; omega
        refine z_iload_n O dX6_priceOf_15 rfl ?_
        refine z_iload_n O dX6_priceOf_16 rfl ?_
        refine z_callS O (c_X6_holds hl hP (j := i) (by omega)) zI zm3_32 zm3_33 zm3_29 zm3_18 ⟨by decide +kernel, by decide +kernel, (show _ = some 2 by decide +kernel)⟩ ⟨Nat.le_of_ble_eq_true rfl, Nat.le_of_ble_eq_true rfl⟩ ⟨Nat.le_of_ble_eq_true rfl, Nat.le_of_ble_eq_true rfl⟩ dX6_priceOf_17 rfl (Nat.le_of_ble_eq_true rfl) (fun _ _ _ h => h.elim) (fun r w1 ad1 hp => ?_)
        obtain ⟨rfl, rfl, rfl⟩ := hp
        by_cases hb : fBit P i = 1
        · rw [if_pos hb]
          refine z_if_eq O dX6_priceOf_20 (tgt := 40) (by decide) (fun g => absurd g (by decide)) (fun _ => ?_)
          refine z_iload_n O dX6_priceOf_23 rfl ?_
          refine z_aload_n O dX6_priceOf_24 rfl ?_
          refine z_get O (fk := 0) (fun x h => zI x (zu_RX6 x h)) rfl (by decide) (zI _ zm3_16) dX6_priceOf_25 (zg_tr) rfl ?_
          refine z_iload_n O dX6_priceOf_28 rfl ?_
          refine z_callV O (c_get_hand hl hL0 hi) zI zm3_23 zm1_49 zm1_50 zm0_31 zm1_26 ⟨rfl, by decide +kernel, by decide +kernel, (show _ = some 1 by decide +kernel)⟩ rfl ((zg_list0 (i := 0) (by decide) hL0)) ⟨Nat.le_of_ble_eq_true rfl, Nat.le_of_ble_eq_true rfl⟩ ⟨Nat.le_of_ble_eq_true rfl, Nat.le_of_ble_eq_true rfl⟩ dX6_priceOf_29 rfl (Nat.le_of_ble_eq_true rfl) (fun _ _ _ h => h.elim) (fun r w1 ad1 hp => ?_)
          obtain ⟨rfl, rfl, rfl⟩ := hp
          refine z_cast0 O rfl (zI _ zm3_20) (zg_hand hi hi20) dX6_priceOf_32 ?_
          refine z_get O (fk := 3) (fun x h => zI x (zu_RX2 x h)) rfl (by decide) (zI _ zm3_35) dX6_priceOf_35 (zg_hand hi hi20) rfl ?_
          refine z_iadd O dX6_priceOf_38 ?_
          refine z_istore_n O dX6_priceOf_39 (by decide) ?_
          refine z_iincN O dX6_priceOf_40 (a := i) rfl (by decide) ?_
          refine z_goto O dX6_priceOf_43 (tgt := 4) (by decide) ?_
          exact zV.loc (ih (i + 1) _ (by omega) (by omega) (by rw [hacc]; show _ = fSum (fun j => if fBit P j = 1 then Z 13 j else 0) i + (if fBit P i = 1 then Z 13 i else 0); rw [if_pos hb])) ⟨rfl, rfl, rfl, rfl, trivial⟩
        · rw [if_neg hb]
          refine z_if_eq O dX6_priceOf_20 (tgt := 40) (by decide) (fun _ => ?_) (fun g => absurd rfl g)
          refine z_iincN O dX6_priceOf_40 (a := i) rfl (by decide) ?_
          refine z_goto O dX6_priceOf_43 (tgt := 4) (by decide) ?_
          exact zV.loc (ih (i + 1) _ (by omega) (by omega) (by rw [hacc, fSum_z (f := fun j => if fBit P j = 1 then Z 13 j else 0) (if_neg hb)])) ⟨rfl, rfl, rfl, rfl, trivial⟩
  refine z_iconst O dX6_priceOf_0 (v := 0) (by decide) ?_
  refine z_istore_n O dX6_priceOf_1 (by decide) ?_
  refine z_iconst O dX6_priceOf_2 (v := 0) (by decide) ?_
  refine z_istore_n O dX6_priceOf_3 (by decide) ?_
  exact zV.loc (L (zN Z 0 + 1) 0 0 (by omega) (by omega) rfl) ⟨rfl, rfl, rfl, rfl, trivial⟩

set_option maxRecDepth 100000 in
set_option maxHeartbeats 4000000 in
theorem c_X6_strengthOf {G : zG} {l : Launch} (hl : l.stackTraces = false) {Z : zM} {sb : Nat → Option Nat} {mcn : Nat → Int32} {cp : Nat → Nat} {Y : zM} {th : Int32} {o : Nat → Int64} {od : Nat → UInt64} {ad : Nat → Nat} (hL0 : zLst Z cp 0) {P : Nat} (hP : P < 2 ^ 31) : zCt G l yX6_strengthOf (zws yX6_strengthOf cX6_strengthOf 4 (some .int)) ({ frames := 3, cells := 0, slots := 0, locals := 64 }) [.ref (ad 3), .int (nI P)] (zent Z sb mcn cp G.2.2.2.1 Y th o od ad) ad (fun r w1 ad1 => some (.int (fOf Z 11 P (zN Z 0))) = r ∧ zent Z sb mcn cp G.2.2.2.1 Y th o od ad = w1 ∧ ad = ad1) (zNoX) := by
  refine z_body hl (by decide +kernel) (Nat.le_of_ble_eq_true rfl) (fun X O => ?_)
  have L : ∀ (n : Nat) (i : Nat) (acc : Int32), i ≤ zN Z 0 → zN Z 0 < i + n → acc = fSum (fun j => if fBit P j = 1 then Z 11 j else 0) i → zV G X 4 0 0 4 [(0, .ref (ad 3)), (1, .int (nI P)), (2, .int acc), (3, .int (nI i))] [] (zent Z sb mcn cp G.2.2.2.1 Y th o od ad) ad := by
    intro n
    induction n with
    | zero => intro i acc h1 h2 hacc; omega
    | succ n ih =>
      intro i acc h1 h2 hacc
      refine z_iload_n O dX6_strengthOf_4 rfl ?_
      refine z_aload_n O dX6_strengthOf_5 rfl ?_
      refine z_get O (fk := 0) (fun x h => zI x (zu_RX6 x h)) rfl (by decide) (zI _ zm3_16) dX6_strengthOf_6 (zg_tr) rfl ?_
      refine z_callV O (c_size_l hl (i := 0) (by decide) hL0) zI zm3_22 zm1_46 zm1_47 zm0_31 zm1_19 ⟨rfl, by decide +kernel, by decide +kernel, (show _ = some 0 by decide +kernel)⟩ rfl ((zg_list0 (i := 0) (by decide) hL0)) ⟨Nat.le_of_ble_eq_true rfl, Nat.le_of_ble_eq_true rfl⟩ ⟨Nat.le_of_ble_eq_true rfl, Nat.le_of_ble_eq_true rfl⟩ dX6_strengthOf_9 rfl (Nat.le_of_ble_eq_true rfl) (fun _ _ _ h => h.elim) (fun r w1 ad1 hp => ?_)
      obtain ⟨rfl, rfl, rfl⟩ := hp
      refine z_icmp_ge O dX6_strengthOf_12 (tgt := 46) (by decide) (fun h => ?_) (fun h => ?_)
      · have hi : i = zN Z 0 := by have := z_ge_ge (by have := hL0.2.2.2; omega) (by have := hL0.2.2.2; omega) h; omega
        subst hi
        refine z_iload_n O dX6_strengthOf_46 rfl ?_
        exact z_iret O dX6_strengthOf_47 (Nat.le_of_ble_eq_true rfl) (Nat.le_of_ble_eq_true rfl) (⟨by subst hacc; rfl, rfl, rfl⟩)
      · have hi : i < zN Z 0 := z_ge_lt (by have := hL0.2.2.2; omega) (by have := hL0.2.2.2; omega) h
        have hi20 : i < 20 := by have := hL0.2.2.2; omega
        refine z_iload_n O dX6_strengthOf_15 rfl ?_
        refine z_iload_n O dX6_strengthOf_16 rfl ?_
        refine z_callS O (c_X6_holds hl hP (j := i) (by omega)) zI zm3_32 zm3_33 zm3_29 zm3_18 ⟨by decide +kernel, by decide +kernel, (show _ = some 2 by decide +kernel)⟩ ⟨Nat.le_of_ble_eq_true rfl, Nat.le_of_ble_eq_true rfl⟩ ⟨Nat.le_of_ble_eq_true rfl, Nat.le_of_ble_eq_true rfl⟩ dX6_strengthOf_17 rfl (Nat.le_of_ble_eq_true rfl) (fun _ _ _ h => h.elim) (fun r w1 ad1 hp => ?_)
        obtain ⟨rfl, rfl, rfl⟩ := hp
        by_cases hb : fBit P i = 1
        · rw [if_pos hb]
          refine z_if_eq O dX6_strengthOf_20 (tgt := 40) (by decide) (fun g => absurd g (by decide)) (fun _ => ?_)
          refine z_iload_n O dX6_strengthOf_23 rfl ?_
          refine z_aload_n O dX6_strengthOf_24 rfl ?_
          refine z_get O (fk := 0) (fun x h => zI x (zu_RX6 x h)) rfl (by decide) (zI _ zm3_16) dX6_strengthOf_25 (zg_tr) rfl ?_
          refine z_iload_n O dX6_strengthOf_28 rfl ?_
          refine z_callV O (c_get_hand hl hL0 hi) zI zm3_23 zm1_49 zm1_50 zm0_31 zm1_26 ⟨rfl, by decide +kernel, by decide +kernel, (show _ = some 1 by decide +kernel)⟩ rfl ((zg_list0 (i := 0) (by decide) hL0)) ⟨Nat.le_of_ble_eq_true rfl, Nat.le_of_ble_eq_true rfl⟩ ⟨Nat.le_of_ble_eq_true rfl, Nat.le_of_ble_eq_true rfl⟩ dX6_strengthOf_29 rfl (Nat.le_of_ble_eq_true rfl) (fun _ _ _ h => h.elim) (fun r w1 ad1 hp => ?_)
          obtain ⟨rfl, rfl, rfl⟩ := hp
          refine z_cast0 O rfl (zI _ zm3_20) (zg_hand hi hi20) dX6_strengthOf_32 ?_
          refine z_get O (fk := 1) (fun x h => zI x (zu_RX2 x h)) rfl (by decide) (zI _ zm3_31) dX6_strengthOf_35 (zg_hand hi hi20) rfl ?_
          refine z_iadd O dX6_strengthOf_38 ?_
          refine z_istore_n O dX6_strengthOf_39 (by decide) ?_
          refine z_iincN O dX6_strengthOf_40 (a := i) rfl (by decide) ?_
          refine z_goto O dX6_strengthOf_43 (tgt := 4) (by decide) ?_
          exact zV.loc (ih (i + 1) _ (by omega) (by omega) (by rw [hacc]; show _ = fSum (fun j => if fBit P j = 1 then Z 11 j else 0) i + (if fBit P i = 1 then Z 11 i else 0); rw [if_pos hb])) ⟨rfl, rfl, rfl, rfl, trivial⟩
        · rw [if_neg hb]
          refine z_if_eq O dX6_strengthOf_20 (tgt := 40) (by decide) (fun _ => ?_) (fun g => absurd rfl g)
          refine z_iincN O dX6_strengthOf_40 (a := i) rfl (by decide) ?_
          refine z_goto O dX6_strengthOf_43 (tgt := 4) (by decide) ?_
          exact zV.loc (ih (i + 1) _ (by omega) (by omega) (by rw [hacc, fSum_z (f := fun j => if fBit P j = 1 then Z 11 j else 0) (if_neg hb)])) ⟨rfl, rfl, rfl, rfl, trivial⟩
  refine z_iconst O dX6_strengthOf_0 (v := 0) (by decide) ?_
  refine z_istore_n O dX6_strengthOf_1 (by decide) ?_
  refine z_iconst O dX6_strengthOf_2 (v := 0) (by decide) ?_
  refine z_istore_n O dX6_strengthOf_3 (by decide) ?_
  exact zV.loc (L (zN Z 0 + 1) 0 0 (by omega) (by omega) rfl) ⟨rfl, rfl, rfl, rfl, trivial⟩

def fBc (i : Int32) : Int32 :=
  let a := i - ((i.toUInt32 >>> (Int32.toUInt32 1 &&& Int32.toUInt32 31)).toInt32 &&& 1431655765)
  let b := (a &&& 858993459) + ((a.toUInt32 >>> (Int32.toUInt32 2 &&& Int32.toUInt32 31)).toInt32 &&& 858993459)
  let c := (b + (b.toUInt32 >>> (Int32.toUInt32 4 &&& Int32.toUInt32 31)).toInt32) &&& 252645135
  let d := c + (c.toUInt32 >>> (Int32.toUInt32 8 &&& Int32.toUInt32 31)).toInt32
  let e := d + (d.toUInt32 >>> (Int32.toUInt32 16 &&& Int32.toUInt32 31)).toInt32
  e &&& 63
theorem fBc_cnt0 : ∀ a, a < 64 → ∀ b, b < 64 → fBc (nI (64 * a + b)) = fCnt (64 * a + b) := by decide +kernel
theorem fBc_cnt (P : Nat) (hP : P < 4096) : fBc (nI P) = fCnt P := by
  have h := fBc_cnt0 (P / 64) (by omega) (P % 64) (by omega)
  rw [show 64 * (P / 64) + P % 64 = P by omega] at h
  exact h
set_option maxRecDepth 100000 in
set_option maxHeartbeats 4000000 in
theorem c_J6_bitCount_0f7a4 {G : zG} {l : Launch} (hl : l.stackTraces = false) {Z : zM} {sb : Nat → Option Nat} {mcn : Nat → Int32} {cp : Nat → Nat} {Y : zM} {th : Int32} {o : Nat → Int64} {od : Nat → UInt64} {ad : Nat → Nat} {x : Int32} : zCt G l yJ6_bitCount_0f7a4 (zws yJ6_bitCount_0f7a4 cJ6_bitCount_0f7a4 1 (some .int)) ({ frames := 0, cells := 0, slots := 0, locals := 0 }) [.int x] (zent Z sb mcn cp G.2.2.2.1 Y th o od ad) ad (fun r w1 ad1 => some (.int (fBc x)) = r ∧ zent Z sb mcn cp G.2.2.2.1 Y th o od ad = w1 ∧ ad = ad1) (zNoX) := by
  refine z_body hl (by decide +kernel) (Nat.le_of_ble_eq_true rfl) (fun X O => ?_)
  refine z_iload_n O dJ6_bitCount_0f7a4_0 rfl ?_
  refine z_iload_n O dJ6_bitCount_0f7a4_1 rfl ?_
  refine z_iconst O dJ6_bitCount_0f7a4_2 (v := 1) (by decide) ?_
  refine z_iushr O dJ6_bitCount_0f7a4_3 rfl ?_
  refine z_ldcw O (zI _ zm3_38) dJ6_bitCount_0f7a4_4 ?_
  refine z_iand O dJ6_bitCount_0f7a4_7 ?_
  refine z_isub O dJ6_bitCount_0f7a4_8 ?_
  refine z_istore_n O dJ6_bitCount_0f7a4_9 (by decide) ?_
  refine z_iload_n O dJ6_bitCount_0f7a4_10 rfl ?_
  refine z_ldcw O (zI _ zm3_39) dJ6_bitCount_0f7a4_11 ?_
  refine z_iand O dJ6_bitCount_0f7a4_14 ?_
  refine z_iload_n O dJ6_bitCount_0f7a4_15 rfl ?_
  refine z_iconst O dJ6_bitCount_0f7a4_16 (v := 2) (by decide) ?_
  refine z_iushr O dJ6_bitCount_0f7a4_17 rfl ?_
  refine z_ldcw O (zI _ zm3_39) dJ6_bitCount_0f7a4_18 ?_
  refine z_iand O dJ6_bitCount_0f7a4_21 ?_
  refine z_iadd O dJ6_bitCount_0f7a4_22 ?_
  refine z_istore_n O dJ6_bitCount_0f7a4_23 (by decide) ?_
  refine z_iload_n O dJ6_bitCount_0f7a4_24 rfl ?_
  refine z_iload_n O dJ6_bitCount_0f7a4_25 rfl ?_
  refine z_iconst O dJ6_bitCount_0f7a4_26 (v := 4) (by decide) ?_
  refine z_iushr O dJ6_bitCount_0f7a4_27 rfl ?_
  refine z_iadd O dJ6_bitCount_0f7a4_28 ?_
  refine z_ldcw O (zI _ zm3_40) dJ6_bitCount_0f7a4_29 ?_
  refine z_iand O dJ6_bitCount_0f7a4_32 ?_
  refine z_istore_n O dJ6_bitCount_0f7a4_33 (by decide) ?_
  refine z_iload_n O dJ6_bitCount_0f7a4_34 rfl ?_
  refine z_iload_n O dJ6_bitCount_0f7a4_35 rfl ?_
  refine z_bipush O dJ6_bitCount_0f7a4_36 (v := 8) (by decide) ?_
  refine z_iushr O dJ6_bitCount_0f7a4_38 rfl ?_
  refine z_iadd O dJ6_bitCount_0f7a4_39 ?_
  refine z_istore_n O dJ6_bitCount_0f7a4_40 (by decide) ?_
  refine z_iload_n O dJ6_bitCount_0f7a4_41 rfl ?_
  refine z_iload_n O dJ6_bitCount_0f7a4_42 rfl ?_
  refine z_bipush O dJ6_bitCount_0f7a4_43 (v := 16) (by decide) ?_
  refine z_iushr O dJ6_bitCount_0f7a4_45 rfl ?_
  refine z_iadd O dJ6_bitCount_0f7a4_46 ?_
  refine z_istore_n O dJ6_bitCount_0f7a4_47 (by decide) ?_
  refine z_iload_n O dJ6_bitCount_0f7a4_48 rfl ?_
  refine z_bipush O dJ6_bitCount_0f7a4_49 (v := 63) (by decide) ?_
  refine z_iand O dJ6_bitCount_0f7a4_51 ?_
  exact z_iret O dJ6_bitCount_0f7a4_52 (Nat.le_of_ble_eq_true rfl) (Nat.le_of_ble_eq_true rfl) (⟨rfl, rfl, rfl⟩)

set_option maxRecDepth 100000 in
set_option maxHeartbeats 4000000 in
theorem c_X6_isBetter {G : zG} {l : Launch} (hl : l.stackTraces = false) {Z : zM} {sb : Nat → Option Nat} {mcn : Nat → Int32} {cp : Nat → Nat} {Y : zM} {th : Int32} {o : Nat → Int64} {od : Nat → UInt64} {ad : Nat → Nat} (hL0 : zLst Z cp 0) {P Q : Nat} (hP : P < 4096) (hQ : Q < 4096) : zCt G l yX6_isBetter (zws yX6_isBetter cX6_isBetter 8 (some .boolean)) ({ frames := 4, cells := 0, slots := 0, locals := 87 }) [.ref (ad 3), .int (nI P), .int (nI Q)] (zent Z sb mcn cp G.2.2.2.1 Y th o od ad) ad (fun r w1 ad1 => (some (.int 1) = r ∧ fBetter Z (zN Z 0) P Q ∧ zent Z sb mcn cp G.2.2.2.1 Y th o od ad = w1 ∧ ad = ad1) ∨ (some (.int 0) = r ∧ ¬ fBetter Z (zN Z 0) P Q ∧ zent Z sb mcn cp G.2.2.2.1 Y th o od ad = w1 ∧ ad = ad1)) (zNoX) := by
  refine z_body hl (by decide +kernel) (Nat.le_of_ble_eq_true rfl) (fun X O => ?_)
  refine z_aload_n O dX6_isBetter_0 rfl ?_
  refine z_iload_n O dX6_isBetter_1 rfl ?_
  refine z_callV O (c_X6_priceOf hl hL0 (P := P) (by omega)) zI zm3_41 zm3_42 zm3_43 zm3_29 zm3_36 ⟨rfl, by decide +kernel, by decide +kernel, (show _ = some 1 by decide +kernel)⟩ rfl (zg_tr) ⟨Nat.le_of_ble_eq_true rfl, Nat.le_of_ble_eq_true rfl⟩ ⟨Nat.le_of_ble_eq_true rfl, Nat.le_of_ble_eq_true rfl⟩ dX6_isBetter_2 rfl (Nat.le_of_ble_eq_true rfl) (fun _ _ _ h => h.elim) (fun r w1 ad1 hp => ?_)
  obtain ⟨rfl, rfl, rfl⟩ := hp
  refine z_istore_n O dX6_isBetter_5 (by decide) ?_
  refine z_aload_n O dX6_isBetter_6 rfl ?_
  refine z_iload_n O dX6_isBetter_7 rfl ?_
  refine z_callV O (c_X6_priceOf hl hL0 (P := Q) (by omega)) zI zm3_41 zm3_42 zm3_43 zm3_29 zm3_36 ⟨rfl, by decide +kernel, by decide +kernel, (show _ = some 1 by decide +kernel)⟩ rfl (zg_tr) ⟨Nat.le_of_ble_eq_true rfl, Nat.le_of_ble_eq_true rfl⟩ ⟨Nat.le_of_ble_eq_true rfl, Nat.le_of_ble_eq_true rfl⟩ dX6_isBetter_8 rfl (Nat.le_of_ble_eq_true rfl) (fun _ _ _ h => h.elim) (fun r w1 ad1 hp => ?_)
  obtain ⟨rfl, rfl, rfl⟩ := hp
  refine z_istore O dX6_isBetter_11 (by decide) ?_
  refine z_iload_n O dX6_isBetter_13 rfl ?_
  refine z_iload O dX6_isBetter_14 rfl ?_
  refine z_icmp_eq O dX6_isBetter_16 (tgt := 31) (by decide) (fun h => ?_) (fun h => ?_)
  · refine z_iload_n O dX6_isBetter_31 rfl ?_
    refine z_callS O (c_J6_bitCount_0f7a4 hl (x := nI P)) zI zm3_44 zm3_45 zm3_46 zm3_37 ⟨by decide +kernel, by decide +kernel, (show _ = some 1 by decide +kernel)⟩ ⟨Nat.le_of_ble_eq_true rfl, Nat.le_of_ble_eq_true rfl⟩ ⟨Nat.le_of_ble_eq_true rfl, Nat.le_of_ble_eq_true rfl⟩ dX6_isBetter_32 rfl (Nat.le_of_ble_eq_true rfl) (fun _ _ _ h => h.elim) (fun r w1 ad1 hp => ?_)
    obtain ⟨rfl, rfl, rfl⟩ := hp
    refine z_istore O dX6_isBetter_35 (by decide) ?_
    refine z_iload_n O dX6_isBetter_37 rfl ?_
    refine z_callS O (c_J6_bitCount_0f7a4 hl (x := nI Q)) zI zm3_44 zm3_45 zm3_46 zm3_37 ⟨by decide +kernel, by decide +kernel, (show _ = some 1 by decide +kernel)⟩ ⟨Nat.le_of_ble_eq_true rfl, Nat.le_of_ble_eq_true rfl⟩ ⟨Nat.le_of_ble_eq_true rfl, Nat.le_of_ble_eq_true rfl⟩ dX6_isBetter_38 rfl (Nat.le_of_ble_eq_true rfl) (fun _ _ _ h => h.elim) (fun r w1 ad1 hp => ?_)
    obtain ⟨rfl, rfl, rfl⟩ := hp
    rw [fBc_cnt P hP, fBc_cnt Q hQ]
    refine z_istore O dX6_isBetter_41 (by decide) ?_
    refine z_iload O dX6_isBetter_43 rfl ?_
    refine z_iload O dX6_isBetter_45 rfl ?_
    refine z_icmp_eq O dX6_isBetter_47 (tgt := 63) (by decide) (fun h2 => ?_) (fun h2 => ?_)
    · refine z_iload_n O dX6_isBetter_63 rfl ?_
      refine z_iload_n O dX6_isBetter_64 rfl ?_
      refine z_ixor O dX6_isBetter_65 ?_
      refine z_istore O dX6_isBetter_66 (by decide) ?_
      refine z_iload_n O dX6_isBetter_68 rfl ?_
      refine z_iload O dX6_isBetter_69 rfl ?_
      refine z_iand O dX6_isBetter_71 ?_
      refine z_iload O dX6_isBetter_72 rfl ?_
      refine z_ineg O dX6_isBetter_74 ?_
      refine z_iand O dX6_isBetter_75 ?_
      refine z_if_eq O dX6_isBetter_76 (tgt := 83) (by decide) (fun h3 => ?_) (fun h3 => ?_)
      · refine z_iconst O dX6_isBetter_83 (v := 0) (by decide) ?_
        exact z_zret O rfl rfl dX6_isBetter_84 (Nat.le_of_ble_eq_true rfl) (Nat.le_of_ble_eq_true rfl) (Or.inr ⟨rfl, fun q => q.elim (fun a => a.1 h) (fun a => a.2.elim (fun c => c.1 h2) (fun c => c.2 h3)), rfl, rfl⟩)
      · refine z_iconst O dX6_isBetter_79 (v := 1) (by decide) ?_
        refine z_goto O dX6_isBetter_80 (tgt := 84) (by decide) ?_
        exact z_zret O rfl rfl dX6_isBetter_84 (Nat.le_of_ble_eq_true rfl) (Nat.le_of_ble_eq_true rfl) (Or.inl ⟨rfl, Or.inr ⟨h, Or.inr ⟨h2, h3⟩⟩, rfl, rfl⟩)
    · refine z_iload O dX6_isBetter_50 rfl ?_
      refine z_iload O dX6_isBetter_52 rfl ?_
      refine z_icmp_ge O dX6_isBetter_54 (tgt := 61) (by decide) (fun h3 => ?_) (fun h3 => ?_)
      · refine z_iconst O dX6_isBetter_61 (v := 0) (by decide) ?_
        exact z_zret O rfl rfl dX6_isBetter_62 (Nat.le_of_ble_eq_true rfl) (Nat.le_of_ble_eq_true rfl) (Or.inr ⟨rfl, fun q => q.elim (fun a => a.1 h) (fun a => a.2.elim (fun c => absurd c.2 (Int32.not_lt.mpr h3)) (fun c => h2 c.1)), rfl, rfl⟩)
      · refine z_iconst O dX6_isBetter_57 (v := 1) (by decide) ?_
        refine z_goto O dX6_isBetter_58 (tgt := 62) (by decide) ?_
        exact z_zret O rfl rfl dX6_isBetter_62 (Nat.le_of_ble_eq_true rfl) (Nat.le_of_ble_eq_true rfl) (Or.inl ⟨rfl, Or.inr ⟨h, Or.inl ⟨h2, Int32.not_le.mp h3⟩⟩, rfl, rfl⟩)
  · refine z_iload_n O dX6_isBetter_19 rfl ?_
    refine z_iload O dX6_isBetter_20 rfl ?_
    refine z_icmp_ge O dX6_isBetter_22 (tgt := 29) (by decide) (fun h2 => ?_) (fun h2 => ?_)
    · refine z_iconst O dX6_isBetter_29 (v := 0) (by decide) ?_
      exact z_zret O rfl rfl dX6_isBetter_30 (Nat.le_of_ble_eq_true rfl) (Nat.le_of_ble_eq_true rfl) (Or.inr ⟨rfl, fun q => q.elim (fun a => absurd a.2 (Int32.not_lt.mpr h2)) (fun a => h a.1), rfl, rfl⟩)
    · refine z_iconst O dX6_isBetter_25 (v := 1) (by decide) ?_
      refine z_goto O dX6_isBetter_26 (tgt := 30) (by decide) ?_
      exact z_zret O rfl rfl dX6_isBetter_30 (Nat.le_of_ble_eq_true rfl) (Nat.le_of_ble_eq_true rfl) (Or.inl ⟨rfl, Or.inl ⟨h, Int32.not_le.mp h2⟩, rfl, rfl⟩)

theorem z_pow : ∀ n, n ≤ 12 → (1 : Int32) <<< (nI n &&& 31) = nI (2 ^ n) := by
  intro n hn
  have h : ∀ n, n < 13 → (1 : Int32) <<< (nI n &&& 31) = nI (2 ^ n) := by decide +kernel
  exact h n (by omega)
theorem z_pow2 {n : Nat} (hn : n ≤ 12) : 2 ^ n ≤ 4096 := by
  have := Nat.pow_le_pow_right (show 0 < 2 by decide) hn
  exact this
set_option maxRecDepth 100000 in
set_option maxHeartbeats 4000000 in
theorem c_X6_cheapestPlan {G : zG} {l : Launch} (hl : l.stackTraces = false) {Z : zM} {sb : Nat → Option Nat} {mcn : Nat → Int32} {cp : Nat → Nat} {Y : zM} {th : Int32} {o : Nat → Int64} {od : Nat → UInt64} {ad : Nat → Nat} (hL0 : zLst Z cp 0) {wd : Int32} {bt : Nat → Nat → Bool} (hbt : ∀ P Q, bt P Q = true ↔ fBetter Z (zN Z 0) P Q) : zCt G l yX6_cheapestPlan (zws yX6_cheapestPlan cX6_cheapestPlan 5 (some .int)) ({ frames := 5, cells := 0, slots := 0, locals := 114 }) [.ref (ad 3), .int wd] (zent Z sb mcn cp G.2.2.2.1 Y th o od ad) ad (fun r w1 ad1 => some (.int (nI (fPlan Z (zN Z 0) wd bt (2 ^ zN Z 0)))) = r ∧ zent Z sb mcn cp G.2.2.2.1 Y th o od ad = w1 ∧ ad = ad1) (zNoX) := by
  refine z_body hl (by decide +kernel) (Nat.le_of_ble_eq_true rfl) (fun X O => ?_)
  have L : ∀ (n : Nat) (i : Nat), 0 < i → i ≤ 2 ^ zN Z 0 → 2 ^ zN Z 0 < i + n → zV G X 5 0 0 15 [(0, .ref (ad 3)), (1, .int wd), (2, .int (nI (fPlan Z (zN Z 0) wd bt i))), (3, .int (nI (2 ^ zN Z 0))), (4, .int (nI i))] [] (zent Z sb mcn cp G.2.2.2.1 Y th o od ad) ad := by
    intro n
    induction n with
    | zero => intro i h0 h1 h2; omega
    | succ n ih =>
      intro i h0 h1 h2
      have hp4 := z_pow2 hL0.2.2.2
      have hbl := fPlan_lt Z (zN Z 0) wd bt i (by omega)
      refine z_iload O dX6_cheapestPlan_15 rfl ?_
      refine z_iload_n O dX6_cheapestPlan_17 rfl ?_
      refine z_icmp_ge O dX6_cheapestPlan_18 (tgt := 54) (by decide) (fun h => ?_) (fun h => ?_)
      · have hi : i = 2 ^ zN Z 0 := by have := z_ge_ge (by omega) (by omega) h; omega
        refine z_iload_n O dX6_cheapestPlan_54 rfl ?_
        exact z_iret O dX6_cheapestPlan_55 (Nat.le_of_ble_eq_true rfl) (Nat.le_of_ble_eq_true rfl) (⟨by rw [← hi], rfl, rfl⟩)
      · have hi : i < 2 ^ zN Z 0 := z_ge_lt (by omega) (by omega) h
        refine z_aload_n O dX6_cheapestPlan_21 rfl ?_
        refine z_iload O dX6_cheapestPlan_22 rfl ?_
        refine z_callV O (c_X6_strengthOf hl hL0 (P := i) (by omega)) zI zm3_48 zm3_49 zm3_50 zm3_29 zm3_34 ⟨rfl, by decide +kernel, by decide +kernel, (show _ = some 1 by decide +kernel)⟩ rfl (zg_tr) ⟨Nat.le_of_ble_eq_true rfl, Nat.le_of_ble_eq_true rfl⟩ ⟨Nat.le_of_ble_eq_true rfl, Nat.le_of_ble_eq_true rfl⟩ dX6_cheapestPlan_24 rfl (Nat.le_of_ble_eq_true rfl) (fun _ _ _ h => h.elim) (fun r w1 ad1 hp => ?_)
        obtain ⟨rfl, rfl, rfl⟩ := hp
        refine z_iload_n O dX6_cheapestPlan_27 rfl ?_
        refine z_icmp_lt O dX6_cheapestPlan_28 (tgt := 48) (by decide) (fun g => ?_) (fun g => ?_)
        · refine z_iincN O dX6_cheapestPlan_48 (a := i) rfl (by decide) ?_
          refine z_goto O dX6_cheapestPlan_51 (tgt := 15) (by decide) ?_
          exact zV.loc (ih (i + 1) (by omega) (by omega) (by omega)) ⟨rfl, rfl, by rw [show fPlan Z (zN Z 0) wd bt (i + 1) = fPlan Z (zN Z 0) wd bt i from by rw [fPlan, if_neg (show ¬ i = 0 by omega)]; exact if_neg (fun q => absurd q.1 (Int32.not_le.mpr g))]; rfl, rfl, rfl, trivial⟩
        · refine z_iload_n O dX6_cheapestPlan_31 rfl ?_
          refine z_if_eq O dX6_cheapestPlan_32 (tgt := 45) (by decide) (fun g2 => ?_) (fun g2 => ?_)
          · have g3 : fPlan Z (zN Z 0) wd bt i = 0 := (nI_eq (by omega) (by decide)).mp g2
            refine z_iload O dX6_cheapestPlan_45 rfl ?_
            refine z_istore_n O dX6_cheapestPlan_47 (by decide) ?_
            refine z_iincN O dX6_cheapestPlan_48 (a := i) rfl (by decide) ?_
            refine z_goto O dX6_cheapestPlan_51 (tgt := 15) (by decide) ?_
            exact zV.loc (ih (i + 1) (by omega) (by omega) (by omega)) ⟨rfl, rfl, by rw [show fPlan Z (zN Z 0) wd bt (i + 1) = i from by rw [fPlan, if_neg (show ¬ i = 0 by omega)]; exact if_pos ⟨Int32.not_lt.mp g, Or.inl g3⟩]; rfl, rfl, rfl, trivial⟩
          · have g3 : ¬ fPlan Z (zN Z 0) wd bt i = 0 := fun q => g2 (by rw [q]; rfl)
            refine z_aload_n O dX6_cheapestPlan_35 rfl ?_
            refine z_iload O dX6_cheapestPlan_36 rfl ?_
            refine z_iload_n O dX6_cheapestPlan_38 rfl ?_
            refine z_callV O (c_X6_isBetter hl hL0 (P := i) (Q := fPlan Z (zN Z 0) wd bt i) (by omega) (by omega)) zI zm3_51 zm3_52 zm3_53 zm3_29 zm3_47 ⟨rfl, by decide +kernel, by decide +kernel, (show _ = some 2 by decide +kernel)⟩ rfl (zg_tr) ⟨Nat.le_of_ble_eq_true rfl, Nat.le_of_ble_eq_true rfl⟩ ⟨Nat.le_of_ble_eq_true rfl, Nat.le_of_ble_eq_true rfl⟩ dX6_cheapestPlan_39 rfl (Nat.le_of_ble_eq_true rfl) (fun _ _ _ h => h.elim) (fun r w1 ad1 hp => ?_)
            rcases hp with ⟨rfl, hb, rfl, rfl⟩ | ⟨rfl, hb, rfl, rfl⟩
            · refine z_if_eq O dX6_cheapestPlan_42 (tgt := 48) (by decide) (fun q => absurd q (by decide)) (fun _ => ?_)
              refine z_iload O dX6_cheapestPlan_45 rfl ?_
              refine z_istore_n O dX6_cheapestPlan_47 (by decide) ?_
              refine z_iincN O dX6_cheapestPlan_48 (a := i) rfl (by decide) ?_
              refine z_goto O dX6_cheapestPlan_51 (tgt := 15) (by decide) ?_
              exact zV.loc (ih (i + 1) (by omega) (by omega) (by omega)) ⟨rfl, rfl, by rw [show fPlan Z (zN Z 0) wd bt (i + 1) = i from by rw [fPlan, if_neg (show ¬ i = 0 by omega)]; exact if_pos ⟨Int32.not_lt.mp g, Or.inr ((hbt _ _).mpr hb)⟩]; rfl, rfl, rfl, trivial⟩
            · refine z_if_eq O dX6_cheapestPlan_42 (tgt := 48) (by decide) (fun _ => ?_) (fun q => absurd rfl q)
              refine z_iincN O dX6_cheapestPlan_48 (a := i) rfl (by decide) ?_
              refine z_goto O dX6_cheapestPlan_51 (tgt := 15) (by decide) ?_
              exact zV.loc (ih (i + 1) (by omega) (by omega) (by omega)) ⟨rfl, rfl, by rw [show fPlan Z (zN Z 0) wd bt (i + 1) = fPlan Z (zN Z 0) wd bt i from by rw [fPlan, if_neg (show ¬ i = 0 by omega)]; exact if_neg (fun q => q.2.elim g3 (fun z => hb ((hbt _ _).mp z)))]; rfl, rfl, rfl, trivial⟩
  refine z_iconst O dX6_cheapestPlan_0 (v := 0) (by decide) ?_
  refine z_istore_n O dX6_cheapestPlan_1 (by decide) ?_
  refine z_iconst O dX6_cheapestPlan_2 (v := 1) (by decide) ?_
  refine z_aload_n O dX6_cheapestPlan_3 rfl ?_
  refine z_get O (fk := 0) (fun x h => zI x (zu_RX6 x h)) rfl (by decide) (zI _ zm3_16) dX6_cheapestPlan_4 (zg_tr) rfl ?_
  refine z_callV O (c_size_l hl (i := 0) (by decide) hL0) zI zm3_22 zm1_46 zm1_47 zm0_31 zm1_19 ⟨rfl, by decide +kernel, by decide +kernel, (show _ = some 0 by decide +kernel)⟩ rfl ((zg_list0 (i := 0) (by decide) hL0)) ⟨Nat.le_of_ble_eq_true rfl, Nat.le_of_ble_eq_true rfl⟩ ⟨Nat.le_of_ble_eq_true rfl, Nat.le_of_ble_eq_true rfl⟩ dX6_cheapestPlan_7 rfl (Nat.le_of_ble_eq_true rfl) (fun _ _ _ h => h.elim) (fun r w1 ad1 hp => ?_)
  obtain ⟨rfl, rfl, rfl⟩ := hp
  refine z_ishl O dX6_cheapestPlan_10 ?_
  rw [z_pow (zN Z 0) hL0.2.2.2]
  refine z_istore_n O dX6_cheapestPlan_11 (by decide) ?_
  refine z_iconst O dX6_cheapestPlan_12 (v := 1) (by decide) ?_
  refine z_istore O dX6_cheapestPlan_13 (by decide) ?_
  exact zV.loc (L (2 ^ zN Z 0 + 1) 1 (by omega) (Nat.one_le_two_pow) (by omega)) ⟨rfl, rfl, rfl, rfl, rfl, trivial⟩
end
section
theorem z_toInt64_0 {x : Int32} (h : x.toInt64 = 0) : x = 0 := by
  have h1 : x.toInt64.toInt = 0 := by rw [h]; rfl
  rw [Int32.toInt_toInt64] at h1
  exact Int32.toInt_inj.mp (by rw [h1]; rfl)
set_option maxRecDepth 100000 in
set_option maxHeartbeats 4000000 in
theorem c_X6_cutShare {G : zG} {l : Launch} (hl : l.stackTraces = false) {Z : zM} {sb : Nat → Option Nat} {mcn : Nat → Int32} {cp : Nat → Nat} {Y : zM} {th : Int32} {o : Nat → Int64} {od : Nat → UInt64} {ad : Nat → Nat} {x : Int64} {p : Int32} : zCt G l yX6_cutShare (zws yX6_cutShare cX6_cutShare 3 (some .int)) ({ frames := 0, cells := 0, slots := 0, locals := 0 }) [.long x, .int p] (zent Z sb mcn cp G.2.2.2.1 Y th o od ad) ad (fun r w1 ad1 => some (.int (fCut x p)) = r ∧ zent Z sb mcn cp G.2.2.2.1 Y th o od ad = w1 ∧ ad = ad1) (zNoX) := by
  refine z_body hl (by decide +kernel) (Nat.le_of_ble_eq_true rfl) (fun X O => ?_)
  refine z_iload_n O dX6_cutShare_0 rfl ?_
  refine z_if_ne O dX6_cutShare_1 (tgt := 8) (by decide) (fun h => ?_) (fun h => ?_)
  · refine z_lload_n O dX6_cutShare_8 rfl ?_
    refine z_iload_n O dX6_cutShare_9 rfl ?_
    refine z_i2l O dX6_cutShare_10 rfl ?_
    refine z_ldiv O dX6_cutShare_11 (fun q => h (z_toInt64_0 q)) ?_
    refine z_l2i O dX6_cutShare_12 rfl ?_
    exact z_iret O dX6_cutShare_13 (Nat.le_of_ble_eq_true rfl) (Nat.le_of_ble_eq_true rfl) (⟨by unfold fCut; rw [if_neg h], rfl, rfl⟩)
  · refine z_iconst O dX6_cutShare_4 (v := 0) (by decide) ?_
    refine z_goto O dX6_cutShare_5 (tgt := 13) (by decide) ?_
    exact z_iret O dX6_cutShare_13 (Nat.le_of_ble_eq_true rfl) (Nat.le_of_ble_eq_true rfl) (⟨by unfold fCut; rw [if_pos h], rfl, rfl⟩)

set_option maxRecDepth 100000 in
set_option maxHeartbeats 4000000 in
theorem c_X6_shareOut {G : zG} {l : Launch} (hl : l.stackTraces = false) {Z : zM} {sb : Nat → Option Nat} {mcn : Nat → Int32} {cp : Nat → Nat} {Y : zM} {th : Int32} {o : Nat → Int64} {od : Nat → UInt64} {ad : Nat → Nat} (hL0 : zLst Z cp 0) {x : Int32} : zCt G l yX6_shareOut (zws yX6_shareOut cX6_shareOut 7 (some .int)) ({ frames := 3, cells := 0, slots := 0, locals := 64 }) [.ref (ad 3), .int x] (zent Z sb mcn cp G.2.2.2.1 Y th o od ad) ad (fun r w1 ad1 => some (.int (fShR Z x (fPt Z (zN Z 0)) (zN Z 0))) = r ∧ zent (fShZ Z x (fPt Z (zN Z 0)) (zN Z 0)) sb mcn cp G.2.2.2.1 Y th o od ad = w1 ∧ ad = ad1) (zNoX) := by
  refine z_body hl (by decide +kernel) (Nat.le_of_ble_eq_true rfl) (fun X O => ?_)
  have L : ∀ (n : Nat) (i : Nat), i ≤ zN Z 0 → zN Z 0 < i + n → zV G X 7 0 0 4 [(0, .ref (ad 3)), (1, .int x), (2, .int (fPt Z i)), (3, .int (nI i))] [] (zent Z sb mcn cp G.2.2.2.1 Y th o od ad) ad := by
    intro n
    induction n with
    | zero => intro i h1 h2; omega
    | succ n ih =>
      intro i h1 h2
      refine z_iload_n O dX6_shareOut_4 rfl ?_
      refine z_aload_n O dX6_shareOut_5 rfl ?_
      refine z_get O (fk := 0) (fun x h => zI x (zu_RX6 x h)) rfl (by decide) (zI _ zm3_16) dX6_shareOut_6 (zg_tr) rfl ?_
      refine z_callV O (c_size_l hl (i := 0) (by decide) hL0) zI zm3_22 zm1_46 zm1_47 zm0_31 zm1_19 ⟨rfl, by decide +kernel, by decide +kernel, (show _ = some 0 by decide +kernel)⟩ rfl ((zg_list0 (i := 0) (by decide) hL0)) ⟨Nat.le_of_ble_eq_true rfl, Nat.le_of_ble_eq_true rfl⟩ ⟨Nat.le_of_ble_eq_true rfl, Nat.le_of_ble_eq_true rfl⟩ dX6_shareOut_9 rfl (Nat.le_of_ble_eq_true rfl) (fun _ _ _ h => h.elim) (fun r w1 ad1 hp => ?_)
      obtain ⟨rfl, rfl, rfl⟩ := hp
      refine z_icmp_ge O dX6_shareOut_12 (tgt := 38) (by decide) (fun h => ?_) (fun h => ?_)
      · have hi : i = zN Z 0 := by have := z_ge_ge (by have := hL0.2.2.2; omega) (by have := hL0.2.2.2; omega) h; omega
        subst hi
        obtain ⟨P, hP⟩ : ∃ z, z = fPt Z (zN Z 0) := ⟨_, rfl⟩
        rw [← hP]
        have L2 : ∀ (n : Nat) (j : Nat), j ≤ zN Z 0 → zN Z 0 < j + n → zV G X 7 0 0 43 [(0, .ref (ad 3)), (1, .int x), (2, .int P), (3, .int (fShR Z x P j)), (4, .int (nI j))] [] (zent (fShZ Z x P j) sb mcn cp G.2.2.2.1 Y th o od ad) ad := by
          intro n
          induction n with
          | zero => intro j h3 h4; omega
          | succ n ih =>
            intro j h3 h4
            have hNj : zN (fShZ Z x P j) 0 = zN Z 0 := by unfold zN; rw [fShZ_n Z x P (by decide)]
            have hLj : zLst (fShZ Z x P j) cp 0 := by unfold zLst; rw [hNj, fShZ_n Z x P (by decide)]; exact hL0
            refine z_iload O dX6_shareOut_43 rfl ?_
            refine z_aload_n O dX6_shareOut_45 rfl ?_
            refine z_get O (fk := 0) (fun x h => zI x (zu_RX6 x h)) rfl (by decide) (zI _ zm3_16) dX6_shareOut_46 (zg_tr) rfl ?_
            refine z_callV O (c_size_l hl (i := 0) (by decide) hLj) zI zm3_22 zm1_46 zm1_47 zm0_31 zm1_19 ⟨rfl, by decide +kernel, by decide +kernel, (show _ = some 0 by decide +kernel)⟩ rfl ((zg_list0 (i := 0) (by decide) hLj)) ⟨Nat.le_of_ble_eq_true rfl, Nat.le_of_ble_eq_true rfl⟩ ⟨Nat.le_of_ble_eq_true rfl, Nat.le_of_ble_eq_true rfl⟩ dX6_shareOut_49 rfl (Nat.le_of_ble_eq_true rfl) (fun _ _ _ h => h.elim) (fun r w1 ad1 hp => ?_)
            obtain ⟨rfl, rfl, rfl⟩ := hp
            rw [hNj]
            refine z_icmp_ge O dX6_shareOut_52 (tgt := 107) (by decide) (fun g => ?_) (fun g => ?_)
            · have hj : j = zN Z 0 := by have := z_ge_ge (by have := hL0.2.2.2; omega) (by have := hL0.2.2.2; omega) g; omega
              refine z_iload_n O dX6_shareOut_107 rfl ?_
              exact z_iret O dX6_shareOut_108 (Nat.le_of_ble_eq_true rfl) (Nat.le_of_ble_eq_true rfl) (⟨by rw [hj, hP], by rw [hj, hP], rfl⟩)
            · have hj : j < zN Z 0 := z_ge_lt (by have := hL0.2.2.2; omega) (by have := hL0.2.2.2; omega) g
              have hj20 : j < 20 := by have := hL0.2.2.2; omega
              have hjj : j < zN (fShZ Z x P j) 0 := by rw [hNj]; exact hj
              refine z_aload_n O dX6_shareOut_55 rfl ?_
              refine z_get O (fk := 0) (fun x h => zI x (zu_RX6 x h)) rfl (by decide) (zI _ zm3_16) dX6_shareOut_56 (zg_tr) rfl ?_
              refine z_iload O dX6_shareOut_59 rfl ?_
              refine z_callV O (c_get_hand hl hLj hjj) zI zm3_23 zm1_49 zm1_50 zm0_31 zm1_26 ⟨rfl, by decide +kernel, by decide +kernel, (show _ = some 1 by decide +kernel)⟩ rfl ((zg_list0 (i := 0) (by decide) hLj)) ⟨Nat.le_of_ble_eq_true rfl, Nat.le_of_ble_eq_true rfl⟩ ⟨Nat.le_of_ble_eq_true rfl, Nat.le_of_ble_eq_true rfl⟩ dX6_shareOut_61 rfl (Nat.le_of_ble_eq_true rfl) (fun _ _ _ h => h.elim) (fun r w1 ad1 hp => ?_)
              obtain ⟨rfl, rfl, rfl⟩ := hp
              refine z_cast0 O rfl (zI _ zm3_20) (zg_hand hjj hj20) dX6_shareOut_64 ?_
              refine z_astore O dX6_shareOut_67 (by decide) ?_
              refine z_iload_n O dX6_shareOut_69 rfl ?_
              refine z_i2l O dX6_shareOut_70 rfl ?_
              refine z_aload O dX6_shareOut_71 rfl ?_
              refine z_callV O (c_X2_parts hl hjj hj20) zI zm3_24 zm3_25 zm3_26 zm1_57 zm2_47 ⟨rfl, by decide +kernel, by decide +kernel, (show _ = some 0 by decide +kernel)⟩ rfl (zg_hand hjj hj20) ⟨Nat.le_of_ble_eq_true rfl, Nat.le_of_ble_eq_true rfl⟩ ⟨Nat.le_of_ble_eq_true rfl, Nat.le_of_ble_eq_true rfl⟩ dX6_shareOut_73 rfl (Nat.le_of_ble_eq_true rfl) (fun _ _ _ h => h.elim) (fun r w1 ad1 hp => ?_)
              obtain ⟨rfl, rfl, rfl⟩ := hp
              refine z_i2l O dX6_shareOut_76 rfl ?_
              refine z_lmul O dX6_shareOut_77 ?_
              refine z_iload_n O dX6_shareOut_78 rfl ?_
              refine z_callS O (c_X6_cutShare hl) zI zm3_27 zm3_28 zm3_29 zm3_19 ⟨by decide +kernel, by decide +kernel, (show _ = some 2 by decide +kernel)⟩ ⟨Nat.le_of_ble_eq_true rfl, Nat.le_of_ble_eq_true rfl⟩ ⟨Nat.le_of_ble_eq_true rfl, Nat.le_of_ble_eq_true rfl⟩ dX6_shareOut_79 rfl (Nat.le_of_ble_eq_true rfl) (fun _ _ _ h => h.elim) (fun r w1 ad1 hp => ?_)
              obtain ⟨rfl, rfl, rfl⟩ := hp
              rw [fShZ_n Z x P (by decide)]
              refine z_istore O dX6_shareOut_82 (by decide) ?_
              refine z_aload O dX6_shareOut_84 rfl ?_
              refine z_dup O dX6_shareOut_86 rfl ?_
              refine z_get O (fk := 4) (fun x h => zI x (zu_RX2 x h)) rfl (by decide) (zI _ zm3_21) dX6_shareOut_87 (zg_hand hjj hj20) rfl ?_
              refine z_iload O dX6_shareOut_90 rfl ?_
              refine z_iadd O dX6_shareOut_92 ?_
              refine z_put O (fk := 4) (fun x h => zI x (zu_RX2 x h)) tyX2 tyX2_ok nmX2 rfl (by decide) (zI _ zm3_21) rfl dX6_shareOut_93 rfl rfl (zg_hand hjj hj20) (Nat.le_of_ble_eq_true rfl) (zp_hand_money hjj hj20) ?_
              refine z_iload_n O dX6_shareOut_96 rfl ?_
              refine z_iload O dX6_shareOut_97 rfl ?_
              refine z_isub O dX6_shareOut_99 ?_
              refine z_istore_n O dX6_shareOut_100 (by decide) ?_
              refine z_iincN O dX6_shareOut_101 (a := j) rfl (by decide) ?_
              refine z_goto O dX6_shareOut_104 (tgt := 43) (by decide) ?_
              exact zV.loc (ih (j + 1) (by omega) (by omega)) ⟨rfl, rfl, rfl, rfl, rfl, trivial⟩
        refine z_iload_n O dX6_shareOut_38 rfl ?_
        refine z_istore_n O dX6_shareOut_39 (by decide) ?_
        refine z_iconst O dX6_shareOut_40 (v := 0) (by decide) ?_
        refine z_istore O dX6_shareOut_41 (by decide) ?_
        exact zV.loc (L2 (zN Z 0 + 1) 0 (by omega) (by omega)) ⟨rfl, rfl, rfl, rfl, rfl, trivial⟩
      · have hi : i < zN Z 0 := z_ge_lt (by have := hL0.2.2.2; omega) (by have := hL0.2.2.2; omega) h
        have hi20 : i < 20 := by have := hL0.2.2.2; omega
        refine z_iload_n O dX6_shareOut_15 rfl ?_
        refine z_aload_n O dX6_shareOut_16 rfl ?_
        refine z_get O (fk := 0) (fun x h => zI x (zu_RX6 x h)) rfl (by decide) (zI _ zm3_16) dX6_shareOut_17 (zg_tr) rfl ?_
        refine z_iload_n O dX6_shareOut_20 rfl ?_
        refine z_callV O (c_get_hand hl hL0 hi) zI zm3_23 zm1_49 zm1_50 zm0_31 zm1_26 ⟨rfl, by decide +kernel, by decide +kernel, (show _ = some 1 by decide +kernel)⟩ rfl ((zg_list0 (i := 0) (by decide) hL0)) ⟨Nat.le_of_ble_eq_true rfl, Nat.le_of_ble_eq_true rfl⟩ ⟨Nat.le_of_ble_eq_true rfl, Nat.le_of_ble_eq_true rfl⟩ dX6_shareOut_21 rfl (Nat.le_of_ble_eq_true rfl) (fun _ _ _ h => h.elim) (fun r w1 ad1 hp => ?_)
        obtain ⟨rfl, rfl, rfl⟩ := hp
        refine z_cast0 O rfl (zI _ zm3_20) (zg_hand hi hi20) dX6_shareOut_24 ?_
        refine z_callV O (c_X2_parts hl hi hi20) zI zm3_24 zm3_25 zm3_26 zm1_57 zm2_47 ⟨rfl, by decide +kernel, by decide +kernel, (show _ = some 0 by decide +kernel)⟩ rfl (zg_hand hi hi20) ⟨Nat.le_of_ble_eq_true rfl, Nat.le_of_ble_eq_true rfl⟩ ⟨Nat.le_of_ble_eq_true rfl, Nat.le_of_ble_eq_true rfl⟩ dX6_shareOut_27 rfl (Nat.le_of_ble_eq_true rfl) (fun _ _ _ h => h.elim) (fun r w1 ad1 hp => ?_)
        obtain ⟨rfl, rfl, rfl⟩ := hp
        refine z_iadd O dX6_shareOut_30 ?_
        refine z_istore_n O dX6_shareOut_31 (by decide) ?_
        refine z_iincN O dX6_shareOut_32 (a := i) rfl (by decide) ?_
        refine z_goto O dX6_shareOut_35 (tgt := 4) (by decide) ?_
        exact zV.loc (ih (i + 1) (by omega) (by omega)) ⟨rfl, rfl, rfl, rfl, trivial⟩
  refine z_iconst O dX6_shareOut_0 (v := 5) (by decide) ?_
  refine z_istore_n O dX6_shareOut_1 (by decide) ?_
  refine z_iconst O dX6_shareOut_2 (v := 0) (by decide) ?_
  refine z_istore_n O dX6_shareOut_3 (by decide) ?_
  exact zV.loc (L (zN Z 0 + 1) 0 (by omega) (by omega)) ⟨rfl, rfl, rfl, rfl, trivial⟩

set_option maxRecDepth 100000 in
set_option maxHeartbeats 4000000 in
theorem c_X6_isInOrder {G : zG} {l : Launch} (hl : l.stackTraces = false) {Z : zM} {sb : Nat → Option Nat} {mcn : Nat → Int32} {cp : Nat → Nat} {Y : zM} {th : Int32} {o : Nat → Int64} {od : Nat → UInt64} {ad : Nat → Nat} (hL0 : zLst Z cp 0) (hsb : ∀ j k, j < zN Z 0 → sb j = some k → k < 80 ∧ zh (Z 2 k) = some j) : zCt G l yX6_isInOrder (zws yX6_isInOrder cX6_isInOrder 3 (some .boolean)) ({ frames := 3, cells := 0, slots := 0, locals := 64 }) [.ref (ad 3)] (zent Z sb mcn cp G.2.2.2.1 Y th o od ad) ad (fun r w1 ad1 => some (.int 1) = r ∧ zent Z sb mcn cp G.2.2.2.1 Y th o od ad = w1 ∧ ad = ad1) (zNoX) := by
  refine z_body hl (by decide +kernel) (Nat.le_of_ble_eq_true rfl) (fun X O => ?_)
  have L : ∀ (n : Nat) (i : Nat), i ≤ zN Z 0 → zN Z 0 < i + n → zV G X 3 0 0 2 [(0, .ref (ad 3)), (1, .int (nI i))] [] (zent Z sb mcn cp G.2.2.2.1 Y th o od ad) ad := by
    intro n
    induction n with
    | zero => intro i h1 h2; omega
    | succ n ih =>
      intro i h1 h2
      refine z_iload_n O dX6_isInOrder_2 rfl ?_
      refine z_aload_n O dX6_isInOrder_3 rfl ?_
      refine z_get O (fk := 0) (fun x h => zI x (zu_RX6 x h)) rfl (by decide) (zI _ zm3_16) dX6_isInOrder_4 (zg_tr) rfl ?_
      refine z_callV O (c_size_l hl (i := 0) (by decide) hL0) zI zm3_22 zm1_46 zm1_47 zm0_31 zm1_19 ⟨rfl, by decide +kernel, by decide +kernel, (show _ = some 0 by decide +kernel)⟩ rfl ((zg_list0 (i := 0) (by decide) hL0)) ⟨Nat.le_of_ble_eq_true rfl, Nat.le_of_ble_eq_true rfl⟩ ⟨Nat.le_of_ble_eq_true rfl, Nat.le_of_ble_eq_true rfl⟩ dX6_isInOrder_7 rfl (Nat.le_of_ble_eq_true rfl) (fun _ _ _ h => h.elim) (fun r w1 ad1 hp => ?_)
      obtain ⟨rfl, rfl, rfl⟩ := hp
      refine z_icmp_ge O dX6_isInOrder_10 (tgt := 51) (by decide) (fun h => ?_) (fun h => ?_)
      · refine z_iconst O dX6_isInOrder_51 (v := 1) (by decide) ?_
        exact z_zret O rfl rfl dX6_isInOrder_52 (Nat.le_of_ble_eq_true rfl) (Nat.le_of_ble_eq_true rfl) (⟨rfl, rfl, rfl⟩)
      · have hi : i < zN Z 0 := z_ge_lt (by have := hL0.2.2.2; omega) (by have := hL0.2.2.2; omega) h
        have hi20 : i < 20 := by have := hL0.2.2.2; omega
        refine z_aload_n O dX6_isInOrder_13 rfl ?_
        refine z_get O (fk := 0) (fun x h => zI x (zu_RX6 x h)) rfl (by decide) (zI _ zm3_16) dX6_isInOrder_14 (zg_tr) rfl ?_
        refine z_iload_n O dX6_isInOrder_17 rfl ?_
        refine z_callV O (c_get_hand hl hL0 hi) zI zm3_23 zm1_49 zm1_50 zm0_31 zm1_26 ⟨rfl, by decide +kernel, by decide +kernel, (show _ = some 1 by decide +kernel)⟩ rfl ((zg_list0 (i := 0) (by decide) hL0)) ⟨Nat.le_of_ble_eq_true rfl, Nat.le_of_ble_eq_true rfl⟩ ⟨Nat.le_of_ble_eq_true rfl, Nat.le_of_ble_eq_true rfl⟩ dX6_isInOrder_18 rfl (Nat.le_of_ble_eq_true rfl) (fun _ _ _ h => h.elim) (fun r w1 ad1 hp => ?_)
        obtain ⟨rfl, rfl, rfl⟩ := hp
        refine z_cast0 O rfl (zI _ zm3_20) (zg_hand hi hi20) dX6_isInOrder_21 ?_
        refine z_astore_n O dX6_isInOrder_24 (by decide) ?_
        refine z_aload_n O dX6_isInOrder_25 rfl ?_
        cases hz : sb i with
        | none =>
          refine z_get O (fk := 5) (v := .null) (fun x h => zI x (zu_RX2 x h)) rfl (by decide) (zI _ zm3_55) dX6_isInOrder_26 (zg_hand hi hi20) (by simp only [sHand, hz]; rfl) ?_
          refine z_ifnullN O dX6_isInOrder_29 (tgt := 45) (by decide) ?_
          refine z_iincN O dX6_isInOrder_45 (a := i) rfl (by decide) ?_
          refine z_goto O dX6_isInOrder_48 (tgt := 2) (by decide) ?_
          exact zV.loc (ih (i + 1) (by omega) (by omega)) ⟨rfl, rfl, trivial⟩
        | some k =>
          obtain ⟨hk, hz2⟩ := hsb i k hi hz
          refine z_get O (fk := 5) (v := .ref (ad (100 + k))) (fun x h => zI x (zu_RX2 x h)) rfl (by decide) (zI _ zm3_55) dX6_isInOrder_26 (zg_hand hi hi20) (by simp only [sHand, hz]; rfl) ?_
          refine z_ifnull O dX6_isInOrder_29 ?_
          refine z_aload_n O dX6_isInOrder_32 rfl ?_
          refine z_get O (fk := 5) (v := .ref (ad (100 + k))) (fun x h => zI x (zu_RX2 x h)) rfl (by decide) (zI _ zm3_55) dX6_isInOrder_33 (zg_hand hi hi20) (by simp only [sHand, hz]; rfl) ?_
          refine z_get O (fk := 2) (v := va_rf (some (ad (200 + i)))) (fun x h => zI x (zu_RX4 x h)) rfl (by decide) (zI _ zm3_56) dX6_isInOrder_36 (zg_seat hk) (by simp only [sSeat, hz2]; rfl) ?_
          refine z_aload_n O dX6_isInOrder_39 rfl ?_
          refine z_acmp_eq O (rx := some (ad (200 + i))) (ry := some (ad (200 + i))) dX6_isInOrder_40 (tgt := 45) (by decide) (fun _ => ?_) (fun g => absurd rfl g)
          refine z_iincN O dX6_isInOrder_45 (a := i) rfl (by decide) ?_
          refine z_goto O dX6_isInOrder_48 (tgt := 2) (by decide) ?_
          exact zV.loc (ih (i + 1) (by omega) (by omega)) ⟨rfl, rfl, trivial⟩
  refine z_iconst O dX6_isInOrder_0 (v := 0) (by decide) ?_
  refine z_istore_n O dX6_isInOrder_1 (by decide) ?_
  exact zV.loc (L (zN Z 0 + 1) 0 (by omega) (by omega)) ⟨rfl, rfl, trivial⟩
end
