section
-- ===== PART A: goes FIRST, ahead of the names: the tables' words, and 'selects' of the private methods out of them =====
/-- a private method of a class that the tables say can be made, by its rows of tables_1 -/
def lw_okq (q : MethodName × Nat) : Prop := (q.1.cls ≠ "java/lang/invoke/MethodHandle" ∧ q.1.cls ≠ "java/lang/invoke/VarHandle") ∧ Cond.instantiable q.1.cls q.2 ∈ tables_1 ∧ Cond.privateMethod q.1 ∈ tables_1 ∧ Cond.instanceMethod q.1 ∈ tables_1
theorem lw_p0 : lw_okq (⟨"PaperMill", "refuse", "(I)I"⟩, 11) := ⟨⟨by decide +kernel, by decide +kernel⟩, List.mem_of_getElem? (i := 19) (by decide +kernel), List.mem_of_getElem? (i := 421) (by decide +kernel), List.mem_of_getElem? (i := 422) (by decide +kernel)⟩
theorem lw_p1 : lw_okq (⟨"PaperMill", "isMould", "(I)Z"⟩, 11) := ⟨⟨by decide +kernel, by decide +kernel⟩, List.mem_of_getElem? (i := 19) (by decide +kernel), List.mem_of_getElem? (i := 498) (by decide +kernel), List.mem_of_getElem? (i := 499) (by decide +kernel)⟩
theorem lw_p2 : lw_okq (⟨"PaperMill", "sizePost", "(I)I"⟩, 11) := ⟨⟨by decide +kernel, by decide +kernel⟩, List.mem_of_getElem? (i := 19) (by decide +kernel), List.mem_of_getElem? (i := 546) (by decide +kernel), List.mem_of_getElem? (i := 547) (by decide +kernel)⟩
theorem lw_p3 : lw_okq (⟨"PaperMill", "planRefusal", "(I)I"⟩, 11) := ⟨⟨by decide +kernel, by decide +kernel⟩, List.mem_of_getElem? (i := 19) (by decide +kernel), List.mem_of_getElem? (i := 597) (by decide +kernel), List.mem_of_getElem? (i := 598) (by decide +kernel)⟩
theorem lw_p4 : lw_okq (⟨"PaperMill$Orders", "sortByDue", "()I"⟩, 10) := ⟨⟨by decide +kernel, by decide +kernel⟩, List.mem_of_getElem? (i := 307) (by decide +kernel), List.mem_of_getElem? (i := 610) (by decide +kernel), List.mem_of_getElem? (i := 611) (by decide +kernel)⟩
theorem lw_p5 : lw_okq (⟨"PaperMill$Orders", "weigh", "(IIII)V"⟩, 10) := ⟨⟨by decide +kernel, by decide +kernel⟩, List.mem_of_getElem? (i := 307) (by decide +kernel), List.mem_of_getElem? (i := 614) (by decide +kernel), List.mem_of_getElem? (i := 615) (by decide +kernel)⟩
theorem lw_p6 : lw_okq (⟨"PaperMill$Orders", "isBetter", "(II)Z"⟩, 10) := ⟨⟨by decide +kernel, by decide +kernel⟩, List.mem_of_getElem? (i := 307) (by decide +kernel), List.mem_of_getElem? (i := 618) (by decide +kernel), List.mem_of_getElem? (i := 619) (by decide +kernel)⟩
theorem lw_p7 : lw_okq (⟨"PaperMill$Works", "passOne", "()V"⟩, 8) := ⟨⟨by decide +kernel, by decide +kernel⟩, List.mem_of_getElem? (i := 74) (by decide +kernel), List.mem_of_getElem? (i := 643) (by decide +kernel), List.mem_of_getElem? (i := 644) (by decide +kernel)⟩
theorem lw_p8 : lw_okq (⟨"PaperMill$Beaters", "end", "(I[I)V"⟩, 4) := ⟨⟨by decide +kernel, by decide +kernel⟩, List.mem_of_getElem? (i := 80) (by decide +kernel), List.mem_of_getElem? (i := 654) (by decide +kernel), List.mem_of_getElem? (i := 655) (by decide +kernel)⟩
theorem lw_p9 : lw_okq (⟨"PaperMill$Vats", "canMake", "(I)Z"⟩, 9) := ⟨⟨by decide +kernel, by decide +kernel⟩, List.mem_of_getElem? (i := 202) (by decide +kernel), List.mem_of_getElem? (i := 662) (by decide +kernel), List.mem_of_getElem? (i := 663) (by decide +kernel)⟩
theorem lw_p10 : lw_okq (⟨"PaperMill$Vats", "makeSheets", "(II)V"⟩, 9) := ⟨⟨by decide +kernel, by decide +kernel⟩, List.mem_of_getElem? (i := 202) (by decide +kernel), List.mem_of_getElem? (i := 666) (by decide +kernel), List.mem_of_getElem? (i := 667) (by decide +kernel)⟩
theorem lw_p11 : lw_okq (⟨"PaperMill$Vats", "makeSheet", "(I)V"⟩, 9) := ⟨⟨by decide +kernel, by decide +kernel⟩, List.mem_of_getElem? (i := 202) (by decide +kernel), List.mem_of_getElem? (i := 670) (by decide +kernel), List.mem_of_getElem? (i := 671) (by decide +kernel)⟩
theorem lw_p12 : lw_okq (⟨"PaperMill$Vats", "endPost", "(II)V"⟩, 9) := ⟨⟨by decide +kernel, by decide +kernel⟩, List.mem_of_getElem? (i := 202) (by decide +kernel), List.mem_of_getElem? (i := 681) (by decide +kernel), List.mem_of_getElem? (i := 682) (by decide +kernel)⟩
theorem lw_p13 : lw_okq (⟨"PaperMill", "readOld", "(IIII)I"⟩, 11) := ⟨⟨by decide +kernel, by decide +kernel⟩, List.mem_of_getElem? (i := 19) (by decide +kernel), List.mem_of_getElem? (i := 775) (by decide +kernel), List.mem_of_getElem? (i := 776) (by decide +kernel)⟩
theorem lw_p14 : lw_okq (⟨"PaperMill$OldSheet", "liesBy", "(III)Z"⟩, 5) := ⟨⟨by decide +kernel, by decide +kernel⟩, List.mem_of_getElem? (i := 353) (by decide +kernel), List.mem_of_getElem? (i := 791) (by decide +kernel), List.mem_of_getElem? (i := 792) (by decide +kernel)⟩
theorem lw_p15 : lw_okq (⟨"PaperMill$OldSheet", "differsBy", "(III)I"⟩, 5) := ⟨⟨by decide +kernel, by decide +kernel⟩, List.mem_of_getElem? (i := 353) (by decide +kernel), List.mem_of_getElem? (i := 795) (by decide +kernel), List.mem_of_getElem? (i := 796) (by decide +kernel)⟩
def lw_privs_1 : List (MethodName × Nat) := [(⟨"PaperMill", "refuse", "(I)I"⟩, 11), (⟨"PaperMill", "isMould", "(I)Z"⟩, 11), (⟨"PaperMill", "sizePost", "(I)I"⟩, 11), (⟨"PaperMill", "planRefusal", "(I)I"⟩, 11), (⟨"PaperMill$Orders", "sortByDue", "()I"⟩, 10), (⟨"PaperMill$Orders", "weigh", "(IIII)V"⟩, 10), (⟨"PaperMill$Orders", "isBetter", "(II)Z"⟩, 10), (⟨"PaperMill$Works", "passOne", "()V"⟩, 8), (⟨"PaperMill$Beaters", "end", "(I[I)V"⟩, 4), (⟨"PaperMill$Vats", "canMake", "(I)Z"⟩, 9), (⟨"PaperMill$Vats", "makeSheets", "(II)V"⟩, 9), (⟨"PaperMill$Vats", "makeSheet", "(I)V"⟩, 9), (⟨"PaperMill$Vats", "endPost", "(II)V"⟩, 9), (⟨"PaperMill", "readOld", "(IIII)I"⟩, 11), (⟨"PaperMill$OldSheet", "liesBy", "(III)Z"⟩, 5), (⟨"PaperMill$OldSheet", "differsBy", "(III)I"⟩, 5)]
theorem lw_r1 : ∀ q ∈ lw_privs_1, lw_okq q := List.forall_mem_cons.mpr ⟨lw_p0, List.forall_mem_cons.mpr ⟨lw_p1, List.forall_mem_cons.mpr ⟨lw_p2, List.forall_mem_cons.mpr ⟨lw_p3, List.forall_mem_cons.mpr ⟨lw_p4, List.forall_mem_cons.mpr ⟨lw_p5, List.forall_mem_cons.mpr ⟨lw_p6, List.forall_mem_cons.mpr ⟨lw_p7, List.forall_mem_cons.mpr ⟨lw_p8, List.forall_mem_cons.mpr ⟨lw_p9, List.forall_mem_cons.mpr ⟨lw_p10, List.forall_mem_cons.mpr ⟨lw_p11, List.forall_mem_cons.mpr ⟨lw_p12, List.forall_mem_cons.mpr ⟨lw_p13, List.forall_mem_cons.mpr ⟨lw_p14, List.forall_mem_cons.mpr ⟨lw_p15, fun _ h => absurd h List.not_mem_nil⟩⟩⟩⟩⟩⟩⟩⟩⟩⟩⟩⟩⟩⟩⟩⟩
theorem lw_p16 : lw_okq (⟨"PaperMill$OldSheet", "compare", "(II)V"⟩, 5) := ⟨⟨by decide +kernel, by decide +kernel⟩, List.mem_of_getElem? (i := 353) (by decide +kernel), List.mem_of_getElem? (i := 815) (by decide +kernel), List.mem_of_getElem? (i := 816) (by decide +kernel)⟩
theorem lw_p17 : lw_okq (⟨"PaperMill$OldSheet", "nearnessOf", "(II)I"⟩, 5) := ⟨⟨by decide +kernel, by decide +kernel⟩, List.mem_of_getElem? (i := 353) (by decide +kernel), List.mem_of_getElem? (i := 819) (by decide +kernel), List.mem_of_getElem? (i := 820) (by decide +kernel)⟩
theorem lw_p18 : lw_okq (⟨"PaperMill$OldSheet", "hasNear", "(III)Z"⟩, 5) := ⟨⟨by decide +kernel, by decide +kernel⟩, List.mem_of_getElem? (i := 353) (by decide +kernel), List.mem_of_getElem? (i := 835) (by decide +kernel), List.mem_of_getElem? (i := 836) (by decide +kernel)⟩
theorem lw_p19 : lw_okq (⟨"PaperMillModel", "refuse", "(I)I"⟩, 36) := ⟨⟨by decide +kernel, by decide +kernel⟩, List.mem_of_getElem? (i := 869) (by decide +kernel), List.mem_of_getElem? (i := 994) (by decide +kernel), List.mem_of_getElem? (i := 995) (by decide +kernel)⟩
theorem lw_p20 : lw_okq (⟨"PaperMillModel", "reckoned", "(II)I"⟩, 36) := ⟨⟨by decide +kernel, by decide +kernel⟩, List.mem_of_getElem? (i := 869) (by decide +kernel), List.mem_of_getElem? (i := 998) (by decide +kernel), List.mem_of_getElem? (i := 999) (by decide +kernel)⟩
theorem lw_p21 : lw_okq (⟨"PaperMillModel", "isKind", "(I)Z"⟩, 36) := ⟨⟨by decide +kernel, by decide +kernel⟩, List.mem_of_getElem? (i := 869) (by decide +kernel), List.mem_of_getElem? (i := 1010) (by decide +kernel), List.mem_of_getElem? (i := 1011) (by decide +kernel)⟩
theorem lw_p22 : lw_okq (⟨"PaperMillModel", "isRipe", "(I)Z"⟩, 36) := ⟨⟨by decide +kernel, by decide +kernel⟩, List.mem_of_getElem? (i := 869) (by decide +kernel), List.mem_of_getElem? (i := 1026) (by decide +kernel), List.mem_of_getElem? (i := 1027) (by decide +kernel)⟩
theorem lw_p23 : lw_okq (⟨"PaperMillModel", "age", "(I)I"⟩, 36) := ⟨⟨by decide +kernel, by decide +kernel⟩, List.mem_of_getElem? (i := 869) (by decide +kernel), List.mem_of_getElem? (i := 1030) (by decide +kernel), List.mem_of_getElem? (i := 1031) (by decide +kernel)⟩
theorem lw_p24 : lw_okq (⟨"PaperMillModel", "isBegun", "(I)Z"⟩, 36) := ⟨⟨by decide +kernel, by decide +kernel⟩, List.mem_of_getElem? (i := 869) (by decide +kernel), List.mem_of_getElem? (i := 1043) (by decide +kernel), List.mem_of_getElem? (i := 1044) (by decide +kernel)⟩
theorem lw_p25 : lw_okq (⟨"PaperMillModel", "post", "(II)I"⟩, 36) := ⟨⟨by decide +kernel, by decide +kernel⟩, List.mem_of_getElem? (i := 869) (by decide +kernel), List.mem_of_getElem? (i := 1071) (by decide +kernel), List.mem_of_getElem? (i := 1072) (by decide +kernel)⟩
theorem lw_p26 : lw_okq (⟨"PaperMillModel", "sizes", "(I)I"⟩, 36) := ⟨⟨by decide +kernel, by decide +kernel⟩, List.mem_of_getElem? (i := 869) (by decide +kernel), List.mem_of_getElem? (i := 1075) (by decide +kernel), List.mem_of_getElem? (i := 1076) (by decide +kernel)⟩
theorem lw_p27 : lw_okq (⟨"PaperMillModel", "put", "(III)V"⟩, 36) := ⟨⟨by decide +kernel, by decide +kernel⟩, List.mem_of_getElem? (i := 869) (by decide +kernel), List.mem_of_getElem? (i := 1080) (by decide +kernel), List.mem_of_getElem? (i := 1081) (by decide +kernel)⟩
theorem lw_p28 : lw_okq (⟨"PaperMillModel", "today", "()I"⟩, 36) := ⟨⟨by decide +kernel, by decide +kernel⟩, List.mem_of_getElem? (i := 869) (by decide +kernel), List.mem_of_getElem? (i := 1104) (by decide +kernel), List.mem_of_getElem? (i := 1105) (by decide +kernel)⟩
theorem lw_p29 : lw_okq (⟨"PaperMillModel", "bests", "(I)I"⟩, 36) := ⟨⟨by decide +kernel, by decide +kernel⟩, List.mem_of_getElem? (i := 869) (by decide +kernel), List.mem_of_getElem? (i := 1112) (by decide +kernel), List.mem_of_getElem? (i := 1113) (by decide +kernel)⟩
theorem lw_p30 : lw_okq (⟨"PaperMillModel", "hour", "()V"⟩, 36) := ⟨⟨by decide +kernel, by decide +kernel⟩, List.mem_of_getElem? (i := 869) (by decide +kernel), List.mem_of_getElem? (i := 1125) (by decide +kernel), List.mem_of_getElem? (i := 1126) (by decide +kernel)⟩
theorem lw_p31 : lw_okq (⟨"PaperMillModel", "works", "(I)V"⟩, 36) := ⟨⟨by decide +kernel, by decide +kernel⟩, List.mem_of_getElem? (i := 869) (by decide +kernel), List.mem_of_getElem? (i := 1129) (by decide +kernel), List.mem_of_getElem? (i := 1130) (by decide +kernel)⟩
def lw_privs_2 : List (MethodName × Nat) := [(⟨"PaperMill$OldSheet", "compare", "(II)V"⟩, 5), (⟨"PaperMill$OldSheet", "nearnessOf", "(II)I"⟩, 5), (⟨"PaperMill$OldSheet", "hasNear", "(III)Z"⟩, 5), (⟨"PaperMillModel", "refuse", "(I)I"⟩, 36), (⟨"PaperMillModel", "reckoned", "(II)I"⟩, 36), (⟨"PaperMillModel", "isKind", "(I)Z"⟩, 36), (⟨"PaperMillModel", "isRipe", "(I)Z"⟩, 36), (⟨"PaperMillModel", "age", "(I)I"⟩, 36), (⟨"PaperMillModel", "isBegun", "(I)Z"⟩, 36), (⟨"PaperMillModel", "post", "(II)I"⟩, 36), (⟨"PaperMillModel", "sizes", "(I)I"⟩, 36), (⟨"PaperMillModel", "put", "(III)V"⟩, 36), (⟨"PaperMillModel", "today", "()I"⟩, 36), (⟨"PaperMillModel", "bests", "(I)I"⟩, 36), (⟨"PaperMillModel", "hour", "()V"⟩, 36), (⟨"PaperMillModel", "works", "(I)V"⟩, 36)]
theorem lw_r2 : ∀ q ∈ lw_privs_2, lw_okq q := List.forall_mem_cons.mpr ⟨lw_p16, List.forall_mem_cons.mpr ⟨lw_p17, List.forall_mem_cons.mpr ⟨lw_p18, List.forall_mem_cons.mpr ⟨lw_p19, List.forall_mem_cons.mpr ⟨lw_p20, List.forall_mem_cons.mpr ⟨lw_p21, List.forall_mem_cons.mpr ⟨lw_p22, List.forall_mem_cons.mpr ⟨lw_p23, List.forall_mem_cons.mpr ⟨lw_p24, List.forall_mem_cons.mpr ⟨lw_p25, List.forall_mem_cons.mpr ⟨lw_p26, List.forall_mem_cons.mpr ⟨lw_p27, List.forall_mem_cons.mpr ⟨lw_p28, List.forall_mem_cons.mpr ⟨lw_p29, List.forall_mem_cons.mpr ⟨lw_p30, List.forall_mem_cons.mpr ⟨lw_p31, fun _ h => absurd h List.not_mem_nil⟩⟩⟩⟩⟩⟩⟩⟩⟩⟩⟩⟩⟩⟩⟩⟩
theorem lw_p32 : lw_okq (⟨"PaperMillModel", "hasPulp", "(I)Z"⟩, 36) := ⟨⟨by decide +kernel, by decide +kernel⟩, List.mem_of_getElem? (i := 869) (by decide +kernel), List.mem_of_getElem? (i := 1133) (by decide +kernel), List.mem_of_getElem? (i := 1134) (by decide +kernel)⟩
theorem lw_p33 : lw_okq (⟨"PaperMillModel", "sheet", "(I)V"⟩, 36) := ⟨⟨by decide +kernel, by decide +kernel⟩, List.mem_of_getElem? (i := 869) (by decide +kernel), List.mem_of_getElem? (i := 1137) (by decide +kernel), List.mem_of_getElem? (i := 1138) (by decide +kernel)⟩
theorem lw_p34 : lw_okq (⟨"PaperMillModel", "wanders", "(I)V"⟩, 36) := ⟨⟨by decide +kernel, by decide +kernel⟩, List.mem_of_getElem? (i := 869) (by decide +kernel), List.mem_of_getElem? (i := 1141) (by decide +kernel), List.mem_of_getElem? (i := 1142) (by decide +kernel)⟩
theorem lw_p35 : lw_okq (⟨"PaperMillModel", "inState", "(I)I"⟩, 36) := ⟨⟨by decide +kernel, by decide +kernel⟩, List.mem_of_getElem? (i := 869) (by decide +kernel), List.mem_of_getElem? (i := 1145) (by decide +kernel), List.mem_of_getElem? (i := 1146) (by decide +kernel)⟩
theorem lw_p36 : lw_okq (⟨"PaperMillModel", "begins", "()V"⟩, 36) := ⟨⟨by decide +kernel, by decide +kernel⟩, List.mem_of_getElem? (i := 869) (by decide +kernel), List.mem_of_getElem? (i := 1153) (by decide +kernel), List.mem_of_getElem? (i := 1154) (by decide +kernel)⟩
theorem lw_p37 : lw_okq (⟨"PaperMillModel", "dried", "()I"⟩, 36) := ⟨⟨by decide +kernel, by decide +kernel⟩, List.mem_of_getElem? (i := 869) (by decide +kernel), List.mem_of_getElem? (i := 1157) (by decide +kernel), List.mem_of_getElem? (i := 1158) (by decide +kernel)⟩
theorem lw_p38 : lw_okq (⟨"PaperMillModel", "ends", "()V"⟩, 36) := ⟨⟨by decide +kernel, by decide +kernel⟩, List.mem_of_getElem? (i := 869) (by decide +kernel), List.mem_of_getElem? (i := 1161) (by decide +kernel), List.mem_of_getElem? (i := 1162) (by decide +kernel)⟩
theorem lw_p39 : lw_okq (⟨"PaperMillModel", "olds", "(IIII)I"⟩, 36) := ⟨⟨by decide +kernel, by decide +kernel⟩, List.mem_of_getElem? (i := 869) (by decide +kernel), List.mem_of_getElem? (i := 1177) (by decide +kernel), List.mem_of_getElem? (i := 1178) (by decide +kernel)⟩
theorem lw_p40 : lw_okq (⟨"PaperMillModel", "isBy", "(II)Z"⟩, 36) := ⟨⟨by decide +kernel, by decide +kernel⟩, List.mem_of_getElem? (i := 869) (by decide +kernel), List.mem_of_getElem? (i := 1189) (by decide +kernel), List.mem_of_getElem? (i := 1190) (by decide +kernel)⟩
theorem lw_p41 : lw_okq (⟨"PaperMillModel", "far", "(II)I"⟩, 36) := ⟨⟨by decide +kernel, by decide +kernel⟩, List.mem_of_getElem? (i := 869) (by decide +kernel), List.mem_of_getElem? (i := 1193) (by decide +kernel), List.mem_of_getElem? (i := 1194) (by decide +kernel)⟩
theorem lw_p42 : lw_okq (⟨"PaperMillModel", "mouldOfSheet", "(I)I"⟩, 36) := ⟨⟨by decide +kernel, by decide +kernel⟩, List.mem_of_getElem? (i := 869) (by decide +kernel), List.mem_of_getElem? (i := 1202) (by decide +kernel), List.mem_of_getElem? (i := 1203) (by decide +kernel)⟩
def lw_privs_3 : List (MethodName × Nat) := [(⟨"PaperMillModel", "hasPulp", "(I)Z"⟩, 36), (⟨"PaperMillModel", "sheet", "(I)V"⟩, 36), (⟨"PaperMillModel", "wanders", "(I)V"⟩, 36), (⟨"PaperMillModel", "inState", "(I)I"⟩, 36), (⟨"PaperMillModel", "begins", "()V"⟩, 36), (⟨"PaperMillModel", "dried", "()I"⟩, 36), (⟨"PaperMillModel", "ends", "()V"⟩, 36), (⟨"PaperMillModel", "olds", "(IIII)I"⟩, 36), (⟨"PaperMillModel", "isBy", "(II)Z"⟩, 36), (⟨"PaperMillModel", "far", "(II)I"⟩, 36), (⟨"PaperMillModel", "mouldOfSheet", "(I)I"⟩, 36)]
theorem lw_r3 : ∀ q ∈ lw_privs_3, lw_okq q := List.forall_mem_cons.mpr ⟨lw_p32, List.forall_mem_cons.mpr ⟨lw_p33, List.forall_mem_cons.mpr ⟨lw_p34, List.forall_mem_cons.mpr ⟨lw_p35, List.forall_mem_cons.mpr ⟨lw_p36, List.forall_mem_cons.mpr ⟨lw_p37, List.forall_mem_cons.mpr ⟨lw_p38, List.forall_mem_cons.mpr ⟨lw_p39, List.forall_mem_cons.mpr ⟨lw_p40, List.forall_mem_cons.mpr ⟨lw_p41, List.forall_mem_cons.mpr ⟨lw_p42, fun _ h => absurd h List.not_mem_nil⟩⟩⟩⟩⟩⟩⟩⟩⟩⟩⟩
def lw_privs : List (MethodName × Nat) := lw_privs_1 ++ (lw_privs_2 ++ (lw_privs_3))
def lw_tbl : List Cond := k2_sels lw_privs ++ tables_1
theorem lw_privs_ok : ∀ q ∈ lw_privs, lw_okq q := by
  show ∀ q ∈ lw_privs_1 ++ (lw_privs_2 ++ (lw_privs_3)), lw_okq q
  exact List.forall_mem_append.mpr ⟨lw_r1, List.forall_mem_append.mpr ⟨lw_r2, lw_r3⟩⟩
end
section
def RX0 : String := "PaperMill$Beaters"
def TX0 : u_T := fun k => match k with
  | 0 => ("PaperMill$Beaters", "pounds", "[I", true)
  | 1 => ("PaperMill$Beaters", "kind", "[I", true)
  | 2 => ("PaperMill$Beaters", "left", "[I", true)
  | _ => ("PaperMill$Beaters", "iron", "[I", true)
def tyX0 : Nat → FieldType := fun k => match k with
  | 0 => .array .int
  | 1 => .array .int
  | 2 => .array .int
  | _ => .array .int
abbrev wsX00 : List Cond := u_ws RX0 TX0 4
theorem nmX0 : ∀ a, a < 4 → ∀ b, b < 4 → a ≠ b → (TX0 a).2.1 ≠ (TX0 b).2.1 := by decide +kernel
theorem tyX0_ok : ∀ k, k < 4 → parseFieldDescriptor (TX0 k).2.2.1 = some (tyX0 k) := by decide +kernel
abbrev cX0_init : ByteArray := prog_2_method_1_code
def yX0_init : MethodName := ⟨RX0, "<init>", "()V"⟩
abbrev cX0_copyFrom : ByteArray := prog_2_method_2_code
def yX0_copyFrom : MethodName := ⟨RX0, "copyFrom", "(LPaperMill$Beaters;)V"⟩
abbrev cX0_isEmpty : ByteArray := prog_2_method_3_code
def yX0_isEmpty : MethodName := ⟨RX0, "isEmpty", "(I)Z"⟩
abbrev cX0_take : ByteArray := prog_2_method_4_code
def yX0_take : MethodName := ⟨RX0, "take", "(IIII)V"⟩
abbrev cX0_work : ByteArray := prog_2_method_5_code
def yX0_work : MethodName := ⟨RX0, "work", "(I[I)I"⟩
abbrev cX0_end : ByteArray := prog_2_method_6_code
def yX0_end : MethodName := ⟨RX0, "end", "(I[I)V"⟩
def RX1 : String := "PaperMill$Heaps"
def TX1 : u_T := fun k => match k with
  | 0 => ("PaperMill$Heaps", "rags", "LPaperMill$Rags;", true)
  | 1 => ("PaperMill$Heaps", "kind", "[I", true)
  | 2 => ("PaperMill$Heaps", "pounds", "[I", true)
  | 3 => ("PaperMill$Heaps", "laidAt", "[I", true)
  | 4 => ("PaperMill$Heaps", "spoiled", "[I", true)
  | 5 => ("PaperMill$Heaps", "laid", "I", false)
  | _ => ("PaperMill$Heaps", "lost", "I", false)
def tyX1 : Nat → FieldType := fun k => match k with
  | 0 => .object "PaperMill$Rags"
  | 1 => .array .int
  | 2 => .array .int
  | 3 => .array .int
  | 4 => .array .int
  | 5 => .int
  | _ => .int
abbrev wsX10 : List Cond := u_ws RX1 TX1 7
theorem nmX1 : ∀ a, a < 7 → ∀ b, b < 7 → a ≠ b → (TX1 a).2.1 ≠ (TX1 b).2.1 := by decide +kernel
theorem tyX1_ok : ∀ k, k < 7 → parseFieldDescriptor (TX1 k).2.2.1 = some (tyX1 k) := by decide +kernel
abbrev cX1_init : ByteArray := prog_3_method_1_code
def yX1_init : MethodName := ⟨RX1, "<init>", "(LPaperMill$Rags;)V"⟩
abbrev cX1_copyFrom : ByteArray := prog_3_method_2_code
def yX1_copyFrom : MethodName := ⟨RX1, "copyFrom", "(LPaperMill$Heaps;)V"⟩
abbrev cX1_lay : ByteArray := prog_3_method_3_code
def yX1_lay : MethodName := ⟨RX1, "lay", "(III)I"⟩
abbrev cX1_ageOf : ByteArray := prog_3_method_4_code
def yX1_ageOf : MethodName := ⟨RX1, "ageOf", "(II)I"⟩
abbrev cX1_isRipe : ByteArray := prog_3_method_5_code
def yX1_isRipe : MethodName := ⟨RX1, "isRipe", "(II)Z"⟩
abbrev cX1_spoilOld : ByteArray := prog_3_method_6_code
def yX1_spoilOld : MethodName := ⟨RX1, "spoilOld", "(I)V"⟩
def RX2 : String := "PaperMill$Marks"
def TX2 : u_T := fun k => match k with
  | 0 => ("PaperMill$Marks", "wires", "[I", true)
  | _ => ("PaperMill$Marks", "early", "[I", true)
def tyX2 : Nat → FieldType := fun k => match k with
  | 0 => .array .int
  | _ => .array .int
abbrev wsX20 : List Cond := u_ws RX2 TX2 2
theorem nmX2 : ∀ a, a < 2 → ∀ b, b < 2 → a ≠ b → (TX2 a).2.1 ≠ (TX2 b).2.1 := by decide +kernel
theorem tyX2_ok : ∀ k, k < 2 → parseFieldDescriptor (TX2 k).2.2.1 = some (tyX2 k) := by decide +kernel
abbrev cX2_init : ByteArray := prog_4_method_1_code
def yX2_init : MethodName := ⟨RX2, "<init>", "()V"⟩
abbrev cX2_keep : ByteArray := prog_4_method_2_code
def yX2_keep : MethodName := ⟨RX2, "keep", "(I[IILPaperMill$Moulds;I)V"⟩
abbrev cX2_markOf : ByteArray := prog_4_method_3_code
def yX2_markOf : MethodName := ⟨RX2, "markOf", "(III)I"⟩
abbrev cX2_groupMark : ByteArray := prog_4_method_4_code
def yX2_groupMark : MethodName := ⟨RX2, "groupMark", "(III)I"⟩
abbrev cX2_groupSheets : ByteArray := prog_4_method_5_code
def yX2_groupSheets : MethodName := ⟨RX2, "groupSheets", "(II)I"⟩
abbrev cX2_groupFirst : ByteArray := prog_4_method_6_code
def yX2_groupFirst : MethodName := ⟨RX2, "groupFirst", "(II)I"⟩
def RX3 : String := "PaperMill$Moulds"
def TX3 : u_T := fun k => match k with
  | 0 => ("PaperMill$Moulds", "weight", "[I", true)
  | 1 => ("PaperMill$Moulds", "wires", "[I", true)
  | 2 => ("PaperMill$Moulds", "made", "[I", true)
  | _ => ("PaperMill$Moulds", "pairs", "I", false)
def tyX3 : Nat → FieldType := fun k => match k with
  | 0 => .array .int
  | 1 => .array .int
  | 2 => .array .int
  | _ => .int
abbrev wsX30 : List Cond := u_ws RX3 TX3 4
theorem nmX3 : ∀ a, a < 4 → ∀ b, b < 4 → a ≠ b → (TX3 a).2.1 ≠ (TX3 b).2.1 := by decide +kernel
theorem tyX3_ok : ∀ k, k < 4 → parseFieldDescriptor (TX3 k).2.2.1 = some (tyX3 k) := by decide +kernel
abbrev cX3_init : ByteArray := prog_5_method_1_code
def yX3_init : MethodName := ⟨RX3, "<init>", "()V"⟩
abbrev cX3_copyFrom : ByteArray := prog_5_method_2_code
def yX3_copyFrom : MethodName := ⟨RX3, "copyFrom", "(LPaperMill$Moulds;)V"⟩
abbrev cX3_addPair : ByteArray := prog_5_method_3_code
def yX3_addPair : MethodName := ⟨RX3, "addPair", "(I)I"⟩
abbrev cX3_wireOf : ByteArray := prog_5_method_4_code
def yX3_wireOf : MethodName := ⟨RX3, "wireOf", "(II)I"⟩
abbrev cX3_setWire : ByteArray := prog_5_method_5_code
def yX3_setWire : MethodName := ⟨RX3, "setWire", "(III)V"⟩
abbrev cX3_countSheet : ByteArray := prog_5_method_6_code
def yX3_countSheet : MethodName := ⟨RX3, "countSheet", "(I)V"⟩
def RX4 : String := "PaperMill$OldSheet"
def TX4 : u_T := fun k => match k with
  | 0 => ("PaperMill$OldSheet", "posts", "LPaperMill$Posts;", true)
  | 1 => ("PaperMill$OldSheet", "marks", "[I", true)
  | 2 => ("PaperMill$OldSheet", "nearestPost", "I", false)
  | 3 => ("PaperMill$OldSheet", "nearestSheet", "I", false)
  | _ => ("PaperMill$OldSheet", "nearness", "I", false)
def tyX4 : Nat → FieldType := fun k => match k with
  | 0 => .object "PaperMill$Posts"
  | 1 => .array .int
  | 2 => .int
  | 3 => .int
  | _ => .int
abbrev wsX40 : List Cond := u_ws RX4 TX4 5
theorem nmX4 : ∀ a, a < 5 → ∀ b, b < 5 → a ≠ b → (TX4 a).2.1 ≠ (TX4 b).2.1 := by decide +kernel
theorem tyX4_ok : ∀ k, k < 5 → parseFieldDescriptor (TX4 k).2.2.1 = some (tyX4 k) := by decide +kernel
abbrev cX4_init : ByteArray := prog_6_method_1_code
def yX4_init : MethodName := ⟨RX4, "<init>", "(LPaperMill$Posts;)V"⟩
abbrev cX4_countNear : ByteArray := prog_6_method_2_code
def yX4_countNear : MethodName := ⟨RX4, "countNear", "(I)I"⟩
abbrev cX4_liesBy : ByteArray := prog_6_method_3_code
def yX4_liesBy : MethodName := ⟨RX4, "liesBy", "(III)Z"⟩
abbrev cX4_differsBy : ByteArray := prog_6_method_4_code
def yX4_differsBy : MethodName := ⟨RX4, "differsBy", "(III)I"⟩
abbrev cX4_nearnessOf : ByteArray := prog_6_method_5_code
def yX4_nearnessOf : MethodName := ⟨RX4, "nearnessOf", "(II)I"⟩
abbrev cX4_findNearest : ByteArray := prog_6_method_6_code
def yX4_findNearest : MethodName := ⟨RX4, "findNearest", "()V"⟩
abbrev cX4_compare : ByteArray := prog_6_method_7_code
def yX4_compare : MethodName := ⟨RX4, "compare", "(II)V"⟩
abbrev cX4_hourOf : ByteArray := prog_6_method_8_code
def yX4_hourOf : MethodName := ⟨RX4, "hourOf", "(IIZ)I"⟩
abbrev cX4_hasNear : ByteArray := prog_6_method_9_code
def yX4_hasNear : MethodName := ⟨RX4, "hasNear", "(III)Z"⟩
def RX5 : String := "PaperMill$Orders"
def TX5 : u_T := fun k => match k with
  | 0 => ("PaperMill$Orders", "kind", "[I", true)
  | 1 => ("PaperMill$Orders", "weight", "[I", true)
  | 2 => ("PaperMill$Orders", "reams", "[I", true)
  | 3 => ("PaperMill$Orders", "due", "[I", true)
  | 4 => ("PaperMill$Orders", "price", "[I", true)
  | 5 => ("PaperMill$Orders", "filledAt", "[I", true)
  | 6 => ("PaperMill$Orders", "taken", "I", false)
  | 7 => ("PaperMill$Orders", "byDue", "[I", true)
  | 8 => ("PaperMill$Orders", "bestSet", "I", false)
  | _ => ("PaperMill$Orders", "bestSum", "I", false)
def tyX5 : Nat → FieldType := fun k => match k with
  | 0 => .array .int
  | 1 => .array .int
  | 2 => .array .int
  | 3 => .array .int
  | 4 => .array .int
  | 5 => .array .int
  | 6 => .int
  | 7 => .array .int
  | 8 => .int
  | _ => .int
abbrev wsX50 : List Cond := u_ws RX5 TX5 10
theorem nmX5 : ∀ a, a < 10 → ∀ b, b < 10 → a ≠ b → (TX5 a).2.1 ≠ (TX5 b).2.1 := by decide +kernel
theorem tyX5_ok : ∀ k, k < 10 → parseFieldDescriptor (TX5 k).2.2.1 = some (tyX5 k) := by decide +kernel
abbrev cX5_init : ByteArray := prog_7_method_1_code
def yX5_init : MethodName := ⟨RX5, "<init>", "()V"⟩
abbrev cX5_take : ByteArray := prog_7_method_2_code
def yX5_take : MethodName := ⟨RX5, "take", "(IIIII)I"⟩
abbrev cX5_isOpen : ByteArray := prog_7_method_3_code
def yX5_isOpen : MethodName := ⟨RX5, "isOpen", "(I)Z"⟩
abbrev cX5_open : ByteArray := prog_7_method_4_code
def yX5_open : MethodName := ⟨RX5, "open", "()I"⟩
abbrev cX5_coinsFor : ByteArray := prog_7_method_5_code
def yX5_coinsFor : MethodName := ⟨RX5, "coinsFor", "(III)I"⟩
abbrev cX5_plan : ByteArray := prog_7_method_6_code
def yX5_plan : MethodName := ⟨RX5, "plan", "(II)V"⟩
abbrev cX5_sortByDue : ByteArray := prog_7_method_7_code
def yX5_sortByDue : MethodName := ⟨RX5, "sortByDue", "()I"⟩
abbrev cX5_weigh : ByteArray := prog_7_method_8_code
def yX5_weigh : MethodName := ⟨RX5, "weigh", "(IIII)V"⟩
abbrev cX5_isBetter : ByteArray := prog_7_method_9_code
def yX5_isBetter : MethodName := ⟨RX5, "isBetter", "(II)Z"⟩
def RX6 : String := "PaperMill$Posts"
def TX6 : u_T := fun k => match k with
  | 0 => ("PaperMill$Posts", "marks", "LPaperMill$Marks;", true)
  | 1 => ("PaperMill$Posts", "pair", "[I", true)
  | 2 => ("PaperMill$Posts", "kind", "[I", true)
  | 3 => ("PaperMill$Posts", "doneAt", "[I", true)
  | 4 => ("PaperMill$Posts", "hungAt", "[I", true)
  | 5 => ("PaperMill$Posts", "dryness", "[I", true)
  | 6 => ("PaperMill$Posts", "driedAt", "[I", true)
  | 7 => ("PaperMill$Posts", "good", "[I", true)
  | 8 => ("PaperMill$Posts", "done", "I", false)
  | 9 => ("PaperMill$Posts", "hung", "I", false)
  | 10 => ("PaperMill$Posts", "dried", "I", false)
  | _ => ("PaperMill$Posts", "room", "I", false)
def tyX6 : Nat → FieldType := fun k => match k with
  | 0 => .object "PaperMill$Marks"
  | 1 => .array .int
  | 2 => .array .int
  | 3 => .array .int
  | 4 => .array .int
  | 5 => .array .int
  | 6 => .array .int
  | 7 => .array .int
  | 8 => .int
  | 9 => .int
  | 10 => .int
  | _ => .int
abbrev wsX60 : List Cond := u_ws RX6 TX6 12
theorem nmX6 : ∀ a, a < 12 → ∀ b, b < 12 → a ≠ b → (TX6 a).2.1 ≠ (TX6 b).2.1 := by decide +kernel
theorem tyX6_ok : ∀ k, k < 12 → parseFieldDescriptor (TX6 k).2.2.1 = some (tyX6 k) := by decide +kernel
abbrev cX6_init : ByteArray := prog_8_method_1_code
def yX6_init : MethodName := ⟨RX6, "<init>", "()V"⟩
abbrev cX6_copyFrom : ByteArray := prog_8_method_2_code
def yX6_copyFrom : MethodName := ⟨RX6, "copyFrom", "(LPaperMill$Posts;)V"⟩
abbrev cX6_add : ByteArray := prog_8_method_3_code
def yX6_add : MethodName := ⟨RX6, "add", "(III)V"⟩
abbrev cX6_hanging : ByteArray := prog_8_method_4_code
def yX6_hanging : MethodName := ⟨RX6, "hanging", "()I"⟩
abbrev cX6_stateOf : ByteArray := prog_8_method_5_code
def yX6_stateOf : MethodName := ⟨RX6, "stateOf", "(I)I"⟩
abbrev cX6_hangWet : ByteArray := prog_8_method_6_code
def yX6_hangWet : MethodName := ⟨RX6, "hangWet", "(I)V"⟩
abbrev cX6_dryHanging : ByteArray := prog_8_method_7_code
def yX6_dryHanging : MethodName := ⟨RX6, "dryHanging", "(II)V"⟩
abbrev cX6_finish : ByteArray := prog_8_method_8_code
def yX6_finish : MethodName := ⟨RX6, "finish", "(I)I"⟩
def RX7 : String := "PaperMill$Rags"
def TX7 : u_T := fun k => match k with
  | 0 => ("PaperMill$Rags", "ripe", "[I", true)
  | 1 => ("PaperMill$Rags", "spoil", "[I", true)
  | 2 => ("PaperMill$Rags", "beat", "[I", true)
  | _ => ("PaperMill$Rags", "store", "[I", true)
def tyX7 : Nat → FieldType := fun k => match k with
  | 0 => .array .int
  | 1 => .array .int
  | 2 => .array .int
  | _ => .array .int
abbrev wsX70 : List Cond := u_ws RX7 TX7 4
theorem nmX7 : ∀ a, a < 4 → ∀ b, b < 4 → a ≠ b → (TX7 a).2.1 ≠ (TX7 b).2.1 := by decide +kernel
theorem tyX7_ok : ∀ k, k < 4 → parseFieldDescriptor (TX7 k).2.2.1 = some (tyX7 k) := by decide +kernel
abbrev cX7_init : ByteArray := prog_9_method_1_code
def yX7_init : MethodName := ⟨RX7, "<init>", "()V"⟩
def RX8 : String := "PaperMill$Vats"
def TX8 : u_T := fun k => match k with
  | 0 => ("PaperMill$Vats", "pulp", "[I", true)
  | 1 => ("PaperMill$Vats", "moulds", "LPaperMill$Moulds;", true)
  | 2 => ("PaperMill$Vats", "posts", "LPaperMill$Posts;", true)
  | 3 => ("PaperMill$Vats", "pair", "[I", true)
  | 4 => ("PaperMill$Vats", "kind", "[I", true)
  | 5 => ("PaperMill$Vats", "begun", "[I", true)
  | 6 => ("PaperMill$Vats", "idle", "[I", true)
  | 7 => ("PaperMill$Vats", "firstWires", "[I", true)
  | _ => ("PaperMill$Vats", "sheetsMade", "I", false)
def tyX8 : Nat → FieldType := fun k => match k with
  | 0 => .array .int
  | 1 => .object "PaperMill$Moulds"
  | 2 => .object "PaperMill$Posts"
  | 3 => .array .int
  | 4 => .array .int
  | 5 => .array .int
  | 6 => .array .int
  | 7 => .array .int
  | _ => .int
abbrev wsX80 : List Cond := u_ws RX8 TX8 9
theorem nmX8 : ∀ a, a < 9 → ∀ b, b < 9 → a ≠ b → (TX8 a).2.1 ≠ (TX8 b).2.1 := by decide +kernel
theorem tyX8_ok : ∀ k, k < 9 → parseFieldDescriptor (TX8 k).2.2.1 = some (tyX8 k) := by decide +kernel
abbrev cX8_init : ByteArray := prog_10_method_1_code
def yX8_init : MethodName := ⟨RX8, "<init>", "([ILPaperMill$Moulds;LPaperMill$Posts;)V"⟩
abbrev cX8_copyFrom : ByteArray := prog_10_method_2_code
def yX8_copyFrom : MethodName := ⟨RX8, "copyFrom", "(LPaperMill$Vats;)V"⟩
abbrev cX8_isPairElsewhere : ByteArray := prog_10_method_3_code
def yX8_isPairElsewhere : MethodName := ⟨RX8, "isPairElsewhere", "(II)Z"⟩
abbrev cX8_isPairAtPost : ByteArray := prog_10_method_4_code
def yX8_isPairAtPost : MethodName := ⟨RX8, "isPairAtPost", "(I)Z"⟩
abbrev cX8_work : ByteArray := prog_10_method_5_code
def yX8_work : MethodName := ⟨RX8, "work", "(II)V"⟩
abbrev cX8_canMake : ByteArray := prog_10_method_6_code
def yX8_canMake : MethodName := ⟨RX8, "canMake", "(I)Z"⟩
abbrev cX8_makeSheets : ByteArray := prog_10_method_7_code
def yX8_makeSheets : MethodName := ⟨RX8, "makeSheets", "(II)V"⟩
abbrev cX8_makeSheet : ByteArray := prog_10_method_8_code
def yX8_makeSheet : MethodName := ⟨RX8, "makeSheet", "(I)V"⟩
abbrev cX8_endPost : ByteArray := prog_10_method_9_code
def yX8_endPost : MethodName := ⟨RX8, "endPost", "(II)V"⟩
def RX9 : String := "PaperMill$Weather"
def TX9 : u_T := fun k => match k with
  | 0 => ("PaperMill$Weather", "told", "[[I", true)
  | _ => ("PaperMill$Weather", "reckoned", "[[I", true)
def tyX9 : Nat → FieldType := fun k => match k with
  | 0 => .array (.array .int)
  | _ => .array (.array .int)
abbrev wsX90 : List Cond := u_ws RX9 TX9 2
theorem nmX9 : ∀ a, a < 2 → ∀ b, b < 2 → a ≠ b → (TX9 a).2.1 ≠ (TX9 b).2.1 := by decide +kernel
theorem tyX9_ok : ∀ k, k < 2 → parseFieldDescriptor (TX9 k).2.2.1 = some (tyX9 k) := by decide +kernel
abbrev cX9_init : ByteArray := prog_11_method_1_code
def yX9_init : MethodName := ⟨RX9, "<init>", "()V"⟩
abbrev cX9_on : ByteArray := prog_11_method_2_code
def yX9_on : MethodName := ⟨RX9, "on", "(II)I"⟩
abbrev cX9_tell : ByteArray := prog_11_method_3_code
def yX9_tell : MethodName := ⟨RX9, "tell", "(III)V"⟩
abbrev cX9_reckon : ByteArray := prog_11_method_4_code
def yX9_reckon : MethodName := ⟨RX9, "reckon", "([I[II)V"⟩
abbrev cX9_between : ByteArray := prog_11_method_5_code
def yX9_between : MethodName := ⟨RX9, "between", "(III)I"⟩
def RX10 : String := "PaperMill$Works"
def TX10 : u_T := fun k => match k with
  | 0 => ("PaperMill$Works", "weather", "LPaperMill$Weather;", true)
  | 1 => ("PaperMill$Works", "pulp", "[I", true)
  | 2 => ("PaperMill$Works", "heaps", "LPaperMill$Heaps;", true)
  | 3 => ("PaperMill$Works", "beaters", "LPaperMill$Beaters;", true)
  | 4 => ("PaperMill$Works", "moulds", "LPaperMill$Moulds;", true)
  | 5 => ("PaperMill$Works", "posts", "LPaperMill$Posts;", true)
  | 6 => ("PaperMill$Works", "vats", "LPaperMill$Vats;", true)
  | _ => ("PaperMill$Works", "hour", "I", false)
def tyX10 : Nat → FieldType := fun k => match k with
  | 0 => .object "PaperMill$Weather"
  | 1 => .array .int
  | 2 => .object "PaperMill$Heaps"
  | 3 => .object "PaperMill$Beaters"
  | 4 => .object "PaperMill$Moulds"
  | 5 => .object "PaperMill$Posts"
  | 6 => .object "PaperMill$Vats"
  | _ => .int
abbrev wsX100 : List Cond := u_ws RX10 TX10 8
theorem nmX10 : ∀ a, a < 8 → ∀ b, b < 8 → a ≠ b → (TX10 a).2.1 ≠ (TX10 b).2.1 := by decide +kernel
theorem tyX10_ok : ∀ k, k < 8 → parseFieldDescriptor (TX10 k).2.2.1 = some (tyX10 k) := by decide +kernel
abbrev cX10_init : ByteArray := prog_12_method_1_code
def yX10_init : MethodName := ⟨RX10, "<init>", "(LPaperMill$Weather;LPaperMill$Rags;)V"⟩
abbrev cX10_become : ByteArray := prog_12_method_2_code
def yX10_become : MethodName := ⟨RX10, "become", "(LPaperMill$Works;)V"⟩
abbrev cX10_today : ByteArray := prog_12_method_3_code
def yX10_today : MethodName := ⟨RX10, "today", "()I"⟩
abbrev cX10_pulpOfAll : ByteArray := prog_12_method_4_code
def yX10_pulpOfAll : MethodName := ⟨RX10, "pulpOfAll", "()I"⟩
abbrev cX10_pass : ByteArray := prog_12_method_5_code
def yX10_pass : MethodName := ⟨RX10, "pass", "(I)V"⟩
abbrev cX10_passOne : ByteArray := prog_12_method_6_code
def yX10_passOne : MethodName := ⟨RX10, "passOne", "()V"⟩
def RX11 : String := "PaperMill"
def TX11 : u_T := fun k => match k with
  | 0 => ("PaperMill", "weather", "LPaperMill$Weather;", true)
  | 1 => ("PaperMill", "rags", "LPaperMill$Rags;", true)
  | 2 => ("PaperMill", "works", "LPaperMill$Works;", true)
  | 3 => ("PaperMill", "dream", "LPaperMill$Works;", true)
  | 4 => ("PaperMill", "orders", "LPaperMill$Orders;", true)
  | 5 => ("PaperMill", "oldSheet", "LPaperMill$OldSheet;", true)
  | 6 => ("PaperMill", "duties", "[I", true)
  | 7 => ("PaperMill", "stock", "[I", true)
  | 8 => ("PaperMill", "refusals", "[I", true)
  | 9 => ("PaperMill", "hidesLeft", "I", false)
  | _ => ("PaperMill", "coins", "I", false)
def tyX11 : Nat → FieldType := fun k => match k with
  | 0 => .object "PaperMill$Weather"
  | 1 => .object "PaperMill$Rags"
  | 2 => .object "PaperMill$Works"
  | 3 => .object "PaperMill$Works"
  | 4 => .object "PaperMill$Orders"
  | 5 => .object "PaperMill$OldSheet"
  | 6 => .array .int
  | 7 => .array .int
  | 8 => .array .int
  | 9 => .int
  | _ => .int
abbrev wsX110 : List Cond := u_ws RX11 TX11 11
theorem nmX11 : ∀ a, a < 11 → ∀ b, b < 11 → a ≠ b → (TX11 a).2.1 ≠ (TX11 b).2.1 := by decide +kernel
theorem tyX11_ok : ∀ k, k < 11 → parseFieldDescriptor (TX11 k).2.2.1 = some (tyX11 k) := by decide +kernel
abbrev cX11_init : ByteArray := prog_1_method_1_code
def yX11_init : MethodName := ⟨RX11, "<init>", "()V"⟩
abbrev cX11_day : ByteArray := prog_1_method_2_code
def yX11_day : MethodName := ⟨RX11, "day", "(III)I"⟩
abbrev cX11_dayOf : ByteArray := prog_1_method_3_code
def yX11_dayOf : MethodName := ⟨RX11, "dayOf", "(II)I"⟩
abbrev cX11_kind : ByteArray := prog_1_method_4_code
def yX11_kind : MethodName := ⟨RX11, "kind", "(IIII)I"⟩
abbrev cX11_rags : ByteArray := prog_1_method_5_code
def yX11_rags : MethodName := ⟨RX11, "rags", "(II)I"⟩
abbrev cX11_heap : ByteArray := prog_1_method_6_code
def yX11_heap : MethodName := ⟨RX11, "heap", "(II)I"⟩
abbrev cX11_load : ByteArray := prog_1_method_7_code
def yX11_load : MethodName := ⟨RX11, "load", "(III)I"⟩
abbrev cX11_pair : ByteArray := prog_1_method_8_code
def yX11_pair : MethodName := ⟨RX11, "pair", "(I)I"⟩
abbrev cX11_wire : ByteArray := prog_1_method_9_code
def yX11_wire : MethodName := ⟨RX11, "wire", "(III)I"⟩
abbrev cX11_mouldOf : ByteArray := prog_1_method_10_code
def yX11_mouldOf : MethodName := ⟨RX11, "mouldOf", "(II)I"⟩
abbrev cX11_vat : ByteArray := prog_1_method_11_code
def yX11_vat : MethodName := ⟨RX11, "vat", "(II)I"⟩
abbrev cX11_furnish : ByteArray := prog_1_method_12_code
def yX11_furnish : MethodName := ⟨RX11, "furnish", "(II)I"⟩
abbrev cX11_loft : ByteArray := prog_1_method_13_code
def yX11_loft : MethodName := ⟨RX11, "loft", "(I)I"⟩
abbrev cX11_hides : ByteArray := prog_1_method_14_code
def yX11_hides : MethodName := ⟨RX11, "hides", "(I)I"⟩
abbrev cX11_size : ByteArray := prog_1_method_15_code
def yX11_size : MethodName := ⟨RX11, "size", "(I)I"⟩
abbrev cX11_sizeAll : ByteArray := prog_1_method_16_code
def yX11_sizeAll : MethodName := ⟨RX11, "sizeAll", "()I"⟩
abbrev cX11_duty : ByteArray := prog_1_method_17_code
def yX11_duty : MethodName := ⟨RX11, "duty", "(II)I"⟩
abbrev cX11_order : ByteArray := prog_1_method_18_code
def yX11_order : MethodName := ⟨RX11, "order", "(IIIII)I"⟩
abbrev cX11_fill : ByteArray := prog_1_method_19_code
def yX11_fill : MethodName := ⟨RX11, "fill", "(I)I"⟩
abbrev cX11_best : ByteArray := prog_1_method_20_code
def yX11_best : MethodName := ⟨RX11, "best", "(I)I"⟩
abbrev cX11_bestWorth : ByteArray := prog_1_method_21_code
def yX11_bestWorth : MethodName := ⟨RX11, "bestWorth", "(I)I"⟩
abbrev cX11_hours : ByteArray := prog_1_method_22_code
def yX11_hours : MethodName := ⟨RX11, "hours", "(I)I"⟩
abbrev cX11_foretell : ByteArray := prog_1_method_23_code
def yX11_foretell : MethodName := ⟨RX11, "foretell", "(II)I"⟩
abbrev cX11_when : ByteArray := prog_1_method_24_code
def yX11_when : MethodName := ⟨RX11, "when", "(I)I"⟩
abbrev cX11_mark : ByteArray := prog_1_method_25_code
def yX11_mark : MethodName := ⟨RX11, "mark", "(III)I"⟩
abbrev cX11_oldA : ByteArray := prog_1_method_26_code
def yX11_oldA : MethodName := ⟨RX11, "oldA", "(III)I"⟩
abbrev cX11_oldB : ByteArray := prog_1_method_27_code
def yX11_oldB : MethodName := ⟨RX11, "oldB", "(III)I"⟩
abbrev cX11_lies : ByteArray := prog_1_method_28_code
def yX11_lies : MethodName := ⟨RX11, "lies", "(I)I"⟩
abbrev cX11_nearest : ByteArray := prog_1_method_29_code
def yX11_nearest : MethodName := ⟨RX11, "nearest", "(I)I"⟩
abbrev cX11_span : ByteArray := prog_1_method_30_code
def yX11_span : MethodName := ⟨RX11, "span", "(IIZ)I"⟩
abbrev cX11_heapOf : ByteArray := prog_1_method_31_code
def yX11_heapOf : MethodName := ⟨RX11, "heapOf", "(II)I"⟩
abbrev cX11_beaterOf : ByteArray := prog_1_method_32_code
def yX11_beaterOf : MethodName := ⟨RX11, "beaterOf", "(II)I"⟩
abbrev cX11_vatOf : ByteArray := prog_1_method_33_code
def yX11_vatOf : MethodName := ⟨RX11, "vatOf", "(II)I"⟩
abbrev cX11_postOf : ByteArray := prog_1_method_34_code
def yX11_postOf : MethodName := ⟨RX11, "postOf", "(II)I"⟩
abbrev cX11_orderOf : ByteArray := prog_1_method_35_code
def yX11_orderOf : MethodName := ⟨RX11, "orderOf", "(II)I"⟩
abbrev cX11_sheets : ByteArray := prog_1_method_36_code
def yX11_sheets : MethodName := ⟨RX11, "sheets", "(II)I"⟩
abbrev cX11_count : ByteArray := prog_1_method_37_code
def yX11_count : MethodName := ⟨RX11, "count", "(I)I"⟩
abbrev cX11_refuse : ByteArray := prog_1_method_38_code
def yX11_refuse : MethodName := ⟨RX11, "refuse", "(I)I"⟩
abbrev cX11_sizePost : ByteArray := prog_1_method_39_code
def yX11_sizePost : MethodName := ⟨RX11, "sizePost", "(I)I"⟩
abbrev cX11_planRefusal : ByteArray := prog_1_method_40_code
def yX11_planRefusal : MethodName := ⟨RX11, "planRefusal", "(I)I"⟩
abbrev cX11_readOld : ByteArray := prog_1_method_41_code
def yX11_readOld : MethodName := ⟨RX11, "readOld", "(IIII)I"⟩
abbrev cX11_isMould : ByteArray := prog_1_method_42_code
def yX11_isMould : MethodName := ⟨RX11, "isMould", "(I)Z"⟩
abbrev cX11_isNumber : ByteArray := prog_1_method_43_code
def yX11_isNumber : MethodName := ⟨RX11, "isNumber", "(II)Z"⟩
abbrev cX11_isWeight : ByteArray := prog_1_method_44_code
def yX11_isWeight : MethodName := ⟨RX11, "isWeight", "(I)Z"⟩
abbrev cX11_shelfOf : ByteArray := prog_1_method_45_code
def yX11_shelfOf : MethodName := ⟨RX11, "shelfOf", "(II)I"⟩
abbrev cX11_copyRow : ByteArray := prog_1_method_46_code
def yX11_copyRow : MethodName := ⟨RX11, "copyRow", "([I[I)V"⟩
def RX12 : String := "PaperMillModel"
def TX12 : u_T := fun k => match k with
  | 0 => ("PaperMillModel", "refusals", "[I", true)
  | 1 => ("PaperMillModel", "days", "[I", true)
  | 2 => ("PaperMillModel", "ripe", "[I", true)
  | 3 => ("PaperMillModel", "spoil", "[I", true)
  | 4 => ("PaperMillModel", "beat", "[I", true)
  | 5 => ("PaperMillModel", "store", "[I", true)
  | 6 => ("PaperMillModel", "duties", "[I", true)
  | 7 => ("PaperMillModel", "sheets", "[I", true)
  | 8 => ("PaperMillModel", "heapKind", "[I", true)
  | 9 => ("PaperMillModel", "heapAt", "[I", true)
  | 10 => ("PaperMillModel", "weight", "[I", true)
  | 11 => ("PaperMillModel", "wires", "[I", true)
  | 12 => ("PaperMillModel", "counts", "[I", true)
  | 13 => ("PaperMillModel", "vatPair", "[I", true)
  | 14 => ("PaperMillModel", "vatKind", "[I", true)
  | 15 => ("PaperMillModel", "heaps", "I", false)
  | 16 => ("PaperMillModel", "pairs", "I", false)
  | 17 => ("PaperMillModel", "orders", "I", false)
  | 18 => ("PaperMillModel", "coins", "I", false)
  | 19 => ("PaperMillModel", "hides", "I", false)
  | 20 => ("PaperMillModel", "loftRoom", "I", false)
  | 21 => ("PaperMillModel", "orderKind", "[I", true)
  | 22 => ("PaperMillModel", "orderWeight", "[I", true)
  | 23 => ("PaperMillModel", "reams", "[I", true)
  | 24 => ("PaperMillModel", "due", "[I", true)
  | 25 => ("PaperMillModel", "price", "[I", true)
  | 26 => ("PaperMillModel", "filled", "[I", true)
  | 27 => ("PaperMillModel", "marks", "[I", true)
  | 28 => ("PaperMillModel", "open", "[I", true)
  | 29 => ("PaperMillModel", "old", "[I", true)
  | 30 => ("PaperMillModel", "now", "[I", true)
  | 31 => ("PaperMillModel", "kept", "[I", true)
  | 32 => ("PaperMillModel", "isTrial", "Z", false)
  | 33 => ("PaperMillModel", "line", "[I", true)
  | 34 => ("PaperMillModel", "bestSet", "I", false)
  | _ => ("PaperMillModel", "bestSum", "I", false)
def tyX12 : Nat → FieldType := fun k => match k with
  | 0 => .array .int
  | 1 => .array .int
  | 2 => .array .int
  | 3 => .array .int
  | 4 => .array .int
  | 5 => .array .int
  | 6 => .array .int
  | 7 => .array .int
  | 8 => .array .int
  | 9 => .array .int
  | 10 => .array .int
  | 11 => .array .int
  | 12 => .array .int
  | 13 => .array .int
  | 14 => .array .int
  | 15 => .int
  | 16 => .int
  | 17 => .int
  | 18 => .int
  | 19 => .int
  | 20 => .int
  | 21 => .array .int
  | 22 => .array .int
  | 23 => .array .int
  | 24 => .array .int
  | 25 => .array .int
  | 26 => .array .int
  | 27 => .array .int
  | 28 => .array .int
  | 29 => .array .int
  | 30 => .array .int
  | 31 => .array .int
  | 32 => .boolean
  | 33 => .array .int
  | 34 => .int
  | _ => .int
abbrev wsX120 : List Cond := u_ws RX12 TX12 36
theorem nmX12 : ∀ a, a < 36 → ∀ b, b < 36 → a ≠ b → (TX12 a).2.1 ≠ (TX12 b).2.1 := by decide +kernel
theorem tyX12_ok : ∀ k, k < 36 → parseFieldDescriptor (TX12 k).2.2.1 = some (tyX12 k) := by decide +kernel
abbrev cX12_init : ByteArray := prog_14_method_1_code
def yX12_init : MethodName := ⟨RX12, "<init>", "()V"⟩
abbrev cX12_refuse : ByteArray := prog_14_method_2_code
def yX12_refuse : MethodName := ⟨RX12, "refuse", "(I)I"⟩
abbrev cX12_isIn : ByteArray := prog_14_method_3_code
def yX12_isIn : MethodName := ⟨RX12, "isIn", "(II)Z"⟩
abbrev cX12_wrong : ByteArray := prog_14_method_4_code
def yX12_wrong : MethodName := ⟨RX12, "wrong", "(III)I"⟩
abbrev cX12_reckoned : ByteArray := prog_14_method_5_code
def yX12_reckoned : MethodName := ⟨RX12, "reckoned", "(II)I"⟩
abbrev cX12_day : ByteArray := prog_14_method_6_code
def yX12_day : MethodName := ⟨RX12, "day", "(III)I"⟩
abbrev cX12_dayOf : ByteArray := prog_14_method_7_code
def yX12_dayOf : MethodName := ⟨RX12, "dayOf", "(II)I"⟩
abbrev cX12_isKind : ByteArray := prog_14_method_8_code
def yX12_isKind : MethodName := ⟨RX12, "isKind", "(I)Z"⟩
abbrev cX12_kind : ByteArray := prog_14_method_9_code
def yX12_kind : MethodName := ⟨RX12, "kind", "(IIII)I"⟩
abbrev cX12_rags : ByteArray := prog_14_method_10_code
def yX12_rags : MethodName := ⟨RX12, "rags", "(II)I"⟩
abbrev cX12_heap : ByteArray := prog_14_method_11_code
def yX12_heap : MethodName := ⟨RX12, "heap", "(II)I"⟩
abbrev cX12_age : ByteArray := prog_14_method_12_code
def yX12_age : MethodName := ⟨RX12, "age", "(I)I"⟩
abbrev cX12_isRipe : ByteArray := prog_14_method_13_code
def yX12_isRipe : MethodName := ⟨RX12, "isRipe", "(I)Z"⟩
abbrev cX12_load : ByteArray := prog_14_method_14_code
def yX12_load : MethodName := ⟨RX12, "load", "(III)I"⟩
abbrev cX12_pair : ByteArray := prog_14_method_15_code
def yX12_pair : MethodName := ⟨RX12, "pair", "(I)I"⟩
abbrev cX12_isBegun : ByteArray := prog_14_method_16_code
def yX12_isBegun : MethodName := ⟨RX12, "isBegun", "(I)Z"⟩
abbrev cX12_wire : ByteArray := prog_14_method_17_code
def yX12_wire : MethodName := ⟨RX12, "wire", "(III)I"⟩
abbrev cX12_mouldOf : ByteArray := prog_14_method_18_code
def yX12_mouldOf : MethodName := ⟨RX12, "mouldOf", "(II)I"⟩
abbrev cX12_vat : ByteArray := prog_14_method_19_code
def yX12_vat : MethodName := ⟨RX12, "vat", "(II)I"⟩
abbrev cX12_furnish : ByteArray := prog_14_method_20_code
def yX12_furnish : MethodName := ⟨RX12, "furnish", "(II)I"⟩
abbrev cX12_loft : ByteArray := prog_14_method_21_code
def yX12_loft : MethodName := ⟨RX12, "loft", "(I)I"⟩
abbrev cX12_hides : ByteArray := prog_14_method_22_code
def yX12_hides : MethodName := ⟨RX12, "hides", "(I)I"⟩
abbrev cX12_post : ByteArray := prog_14_method_23_code
def yX12_post : MethodName := ⟨RX12, "post", "(II)I"⟩
abbrev cX12_put : ByteArray := prog_14_method_24_code
def yX12_put : MethodName := ⟨RX12, "put", "(III)V"⟩
abbrev cX12_sizes : ByteArray := prog_14_method_25_code
def yX12_sizes : MethodName := ⟨RX12, "sizes", "(I)I"⟩
abbrev cX12_size : ByteArray := prog_14_method_26_code
def yX12_size : MethodName := ⟨RX12, "size", "(I)I"⟩
abbrev cX12_sizeAll : ByteArray := prog_14_method_27_code
def yX12_sizeAll : MethodName := ⟨RX12, "sizeAll", "()I"⟩
abbrev cX12_isWeight : ByteArray := prog_14_method_28_code
def yX12_isWeight : MethodName := ⟨RX12, "isWeight", "(I)Z"⟩
abbrev cX12_duty : ByteArray := prog_14_method_29_code
def yX12_duty : MethodName := ⟨RX12, "duty", "(II)I"⟩
abbrev cX12_order : ByteArray := prog_14_method_30_code
def yX12_order : MethodName := ⟨RX12, "order", "(IIIII)I"⟩
abbrev cX12_today : ByteArray := prog_14_method_31_code
def yX12_today : MethodName := ⟨RX12, "today", "()I"⟩
abbrev cX12_fill : ByteArray := prog_14_method_32_code
def yX12_fill : MethodName := ⟨RX12, "fill", "(I)I"⟩
abbrev cX12_bests : ByteArray := prog_14_method_33_code
def yX12_bests : MethodName := ⟨RX12, "bests", "(I)I"⟩
abbrev cX12_best : ByteArray := prog_14_method_34_code
def yX12_best : MethodName := ⟨RX12, "best", "(I)I"⟩
abbrev cX12_bestWorth : ByteArray := prog_14_method_35_code
def yX12_bestWorth : MethodName := ⟨RX12, "bestWorth", "(I)I"⟩
abbrev cX12_wanders : ByteArray := prog_14_method_36_code
def yX12_wanders : MethodName := ⟨RX12, "wanders", "(I)V"⟩
abbrev cX12_sheet : ByteArray := prog_14_method_37_code
def yX12_sheet : MethodName := ⟨RX12, "sheet", "(I)V"⟩
abbrev cX12_hasPulp : ByteArray := prog_14_method_38_code
def yX12_hasPulp : MethodName := ⟨RX12, "hasPulp", "(I)Z"⟩
abbrev cX12_works : ByteArray := prog_14_method_39_code
def yX12_works : MethodName := ⟨RX12, "works", "(I)V"⟩
abbrev cX12_inState : ByteArray := prog_14_method_40_code
def yX12_inState : MethodName := ⟨RX12, "inState", "(I)I"⟩
abbrev cX12_hour : ByteArray := prog_14_method_41_code
def yX12_hour : MethodName := ⟨RX12, "hour", "()V"⟩
abbrev cX12_hours : ByteArray := prog_14_method_42_code
def yX12_hours : MethodName := ⟨RX12, "hours", "(I)I"⟩
abbrev cX12_begins : ByteArray := prog_14_method_43_code
def yX12_begins : MethodName := ⟨RX12, "begins", "()V"⟩
abbrev cX12_ends : ByteArray := prog_14_method_44_code
def yX12_ends : MethodName := ⟨RX12, "ends", "()V"⟩
abbrev cX12_dried : ByteArray := prog_14_method_45_code
def yX12_dried : MethodName := ⟨RX12, "dried", "()I"⟩
abbrev cX12_foretell : ByteArray := prog_14_method_46_code
def yX12_foretell : MethodName := ⟨RX12, "foretell", "(II)I"⟩
abbrev cX12_when : ByteArray := prog_14_method_47_code
def yX12_when : MethodName := ⟨RX12, "when", "(I)I"⟩
abbrev cX12_mark : ByteArray := prog_14_method_48_code
def yX12_mark : MethodName := ⟨RX12, "mark", "(III)I"⟩
abbrev cX12_olds : ByteArray := prog_14_method_49_code
def yX12_olds : MethodName := ⟨RX12, "olds", "(IIII)I"⟩
abbrev cX12_oldA : ByteArray := prog_14_method_50_code
def yX12_oldA : MethodName := ⟨RX12, "oldA", "(III)I"⟩
abbrev cX12_oldB : ByteArray := prog_14_method_51_code
def yX12_oldB : MethodName := ⟨RX12, "oldB", "(III)I"⟩
abbrev cX12_far : ByteArray := prog_14_method_52_code
def yX12_far : MethodName := ⟨RX12, "far", "(II)I"⟩
abbrev cX12_isBy : ByteArray := prog_14_method_53_code
def yX12_isBy : MethodName := ⟨RX12, "isBy", "(II)Z"⟩
abbrev cX12_lies : ByteArray := prog_14_method_54_code
def yX12_lies : MethodName := ⟨RX12, "lies", "(I)I"⟩
abbrev cX12_mouldOfSheet : ByteArray := prog_14_method_55_code
def yX12_mouldOfSheet : MethodName := ⟨RX12, "mouldOfSheet", "(I)I"⟩
abbrev cX12_nearest : ByteArray := prog_14_method_56_code
def yX12_nearest : MethodName := ⟨RX12, "nearest", "(I)I"⟩
abbrev cX12_span : ByteArray := prog_14_method_57_code
def yX12_span : MethodName := ⟨RX12, "span", "(IIZ)I"⟩
abbrev cX12_heapOf : ByteArray := prog_14_method_58_code
def yX12_heapOf : MethodName := ⟨RX12, "heapOf", "(II)I"⟩
abbrev cX12_beaterOf : ByteArray := prog_14_method_59_code
def yX12_beaterOf : MethodName := ⟨RX12, "beaterOf", "(II)I"⟩
abbrev cX12_vatOf : ByteArray := prog_14_method_60_code
def yX12_vatOf : MethodName := ⟨RX12, "vatOf", "(II)I"⟩
abbrev cX12_postOf : ByteArray := prog_14_method_61_code
def yX12_postOf : MethodName := ⟨RX12, "postOf", "(II)I"⟩
abbrev cX12_orderOf : ByteArray := prog_14_method_62_code
def yX12_orderOf : MethodName := ⟨RX12, "orderOf", "(II)I"⟩
abbrev cX12_sheets : ByteArray := prog_14_method_63_code
def yX12_sheets : MethodName := ⟨RX12, "sheets", "(II)I"⟩
abbrev cX12_count : ByteArray := prog_14_method_64_code
def yX12_count : MethodName := ⟨RX12, "count", "(I)I"⟩
def RJ6 : String := "java/lang/Integer"
abbrev cJ6_compare_7cf53 : ByteArray := prog_15_method_40_code
def yJ6_compare_7cf53 : MethodName := ⟨RJ6, "compare", "(II)I"⟩
abbrev cJ6_bitCount_0f7a4 : ByteArray := prog_15_method_49_code
def yJ6_bitCount_0f7a4 : MethodName := ⟨RJ6, "bitCount", "(I)I"⟩
def RJ9 : String := "java/lang/Math"
abbrev cJ9_abs_0f7a4 : ByteArray := prog_16_method_59_code
def yJ9_abs_0f7a4 : MethodName := ⟨RJ9, "abs", "(I)I"⟩
abbrev cJ9_max_7cf53 : ByteArray := prog_16_method_65_code
def yJ9_max_7cf53 : MethodName := ⟨RJ9, "max", "(II)I"⟩
abbrev cJ9_min_7cf53 : ByteArray := prog_16_method_69_code
def yJ9_min_7cf53 : MethodName := ⟨RJ9, "min", "(II)I"⟩
def RJ10 : String := "java/lang/System"
def RJ7 : String := "java/util/Arrays"
abbrev cJ7_fill_53178 : ByteArray := prog_18_method_103_code
def yJ7_fill_53178 : MethodName := ⟨RJ7, "fill", "([II)V"⟩
def RL : String := "PaperMillLaw"
abbrev cL_law : ByteArray := code
def yL_law : MethodName := ⟨RL, "law", "([I)Z"⟩
abbrev vwCl : List vw_C := [(RX0, TX0, 4), (RX1, TX1, 7), (RX2, TX2, 2), (RX3, TX3, 4), (RX4, TX4, 5), (RX5, TX5, 10), (RX6, TX6, 12), (RX7, TX7, 4), (RX8, TX8, 9), (RX9, TX9, 2), (RX10, TX10, 8), (RX11, TX11, 11), (RX12, TX12, 36)]
end
section
/-! ===== the abstract machine: numbers as Int, cells by their numbers, a memory of numbers ===== -/
-- values: a number, a long, a reference (or null), one of the static arrays
abbrev pm_V : Type := Int ⊕ (Int ⊕ (Option Nat ⊕ Nat))
abbrev pv_i (x : Int) : pm_V := .inl x
abbrev pv_l (x : Int) : pm_V := .inr (.inl x)
abbrev pv_o (r : Option Nat) : pm_V := .inr (.inr (.inl r))
abbrev pv_r (r : Nat) : pm_V := .inr (.inr (.inl (some r)))
abbrev pv_s (j : Nat) : pm_V := .inr (.inr (.inr j))
def pm_cv (ad sd : Nat → Nat) : pm_V → Value
  | .inl x => .int (Int32.ofInt x)
  | .inr (.inl x) => .long (Int64.ofInt x)
  | .inr (.inr (.inl none)) => .null
  | .inr (.inr (.inl (some r))) => .ref (ad r)
  | .inr (.inr (.inr j)) => .ref (sd j)
def pm_ct : pm_V → Nat
  | .inr (.inl _) => 2
  | _ => 1
theorem pm_ct_eq (ad sd : Nat → Nat) (v : pm_V) : (pm_cv ad sd v).category = pm_ct v := by
  rcases v with x | x | (_ | r) | j <;> rfl
-- shapes of cells: an int array, an array of rows, an object (none: a number; some: a reference or null)
abbrev pm_F : Type := Option (Option Nat)
abbrev pm_S : Type := Nat ⊕ (List Nat ⊕ (Nat × List pm_F))
abbrev pm_M : Type := Nat → Nat → Int
abbrev ps_a (n : Nat) : pm_S := .inl n
abbrev ps_q (rs : List Nat) : pm_S := .inr (.inl rs)
abbrev ps_o (ci : Nat) (fs : List pm_F) : pm_S := .inr (.inr (ci, fs))
abbrev pm_K : Type := va_G × ClassId × ClassId × (Nat → Nat)
def pm_fld (ad : Nat → Nat) (m : Nat → Int) (k : Nat) (f : pm_F) : Value := match f with
  | none => .int (Int32.ofInt (m k))
  | some none => .null
  | some (some r) => .ref (ad r)
def pm_cell (k : pm_K) (ad : Nat → Nat) (m : Nat → Int) (S : pm_S) : va_E := match S with
  | .inl n => .inl (k.2.1, n, .inl (fun i => Int32.ofInt (m i)))
  | .inr (.inl rs) => .inl (k.2.2.1, rs.length, .inr (.inr (.inr (.inr (fun i => (rs[i]?).map ad)))))
  | .inr (.inr (ci, fs)) => .inr (ci, fs.mapIdx (fun j f => pm_fld ad m j f))
def pm_W (k : pm_K) (ad : Nat → Nat) (lay : List pm_S) (σ : pm_M) : va_W := lay.mapIdx (fun c S => (ad c, pm_cell k ad (σ c) S))
def pm_sz (S : pm_S) : Nat := match S with
  | .inl n => n
  | .inr (.inl rs) => rs.length
  | .inr (.inr (_, fs)) => fs.length
def pm_sl (lay : List pm_S) : Nat := (lay.map pm_sz).sum
theorem pm_W_at {k : pm_K} {ad : Nat → Nat} {lay : List pm_S} {σ : pm_M} {c : Nat} {S : pm_S} (h : lay[c]? = some S) : (pm_W k ad lay σ)[c]? = some (ad c, pm_cell k ad (σ c) S) := by
  unfold pm_W
  rw [List.getElem?_mapIdx, h]
  rfl
-- one place of the memory written
def pm_up (σ : pm_M) (c j : Nat) (v : Int) : pm_M := fun c' j' => if c' = c ∧ j' = j then v else σ c' j'
theorem pm_W_up {k : pm_K} {ad : Nat → Nat} {lay : List pm_S} {σ : pm_M} {c j : Nat} {v : Int} {S : pm_S} (h : lay[c]? = some S) :
    pm_W k ad lay (pm_up σ c j v) = (pm_W k ad lay σ).set c (ad c, pm_cell k ad (pm_up σ c j v c) S) := by
  apply List.ext_getElem?
  intro i
  unfold pm_W
  rw [List.getElem?_mapIdx]
  by_cases hi : i = c
  · subst hi
    have hlt : i < lay.length := (List.getElem?_eq_some_iff.mp h).1
    rw [List.getElem?_set_self (by rw [List.length_mapIdx]; exact hlt), h]
    rfl
  · rw [List.getElem?_set_ne (Ne.symm hi), List.getElem?_mapIdx]
    have e : pm_up σ c j v i = σ i := by
      funext j'
      unfold pm_up
      rw [if_neg (fun q => hi q.1)]
    rw [e]
/-! numbers -/
def wr (x : Int) : Int := (Int32.ofInt x).toInt
def wl (x : Int) : Int := (Int64.ofInt x).toInt
theorem wr_eq {x : Int} (h1 : -2147483648 ≤ x) (h2 : x < 2147483648) : wr x = x := by
  unfold wr
  rw [Int32.toInt_ofInt]
  have e : (Int32.size : Int) = 4294967296 := rfl
  exact Int.bmod_eq_of_le (by omega) (by omega)
theorem wr_rng (x : Int) : -2147483648 ≤ wr x ∧ wr x < 2147483648 := by
  unfold wr
  exact ⟨Int32.le_toInt _, Int32.toInt_lt _⟩
theorem wr_wr (x : Int) : wr (wr x) = wr x := wr_eq (wr_rng x).1 (wr_rng x).2
theorem wr_to (x : Int32) : wr x.toInt = x.toInt := wr_eq (Int32.le_toInt x) (Int32.toInt_lt x)
theorem pm_ofw (x : Int) : Int32.ofInt (wr x) = Int32.ofInt x := by
  unfold wr
  exact Int32.ofInt_toInt _
theorem wl_eq {x : Int} (h1 : -9223372036854775808 ≤ x) (h2 : x < 9223372036854775808) : wl x = x := by
  unfold wl
  rw [Int64.toInt_ofInt]
  have e : (Int64.size : Int) = 18446744073709551616 := rfl
  exact Int.bmod_eq_of_le (by omega) (by omega)
theorem pm_lt (x y : Int) : Int32.ofInt x < Int32.ofInt y ↔ wr x < wr y := Int32.lt_iff_toInt_lt
theorem pm_le (x y : Int) : Int32.ofInt x ≤ Int32.ofInt y ↔ wr x ≤ wr y := Int32.le_iff_toInt_le
theorem pm_eq (x y : Int) : Int32.ofInt x = Int32.ofInt y ↔ wr x = wr y := ⟨fun h => congrArg Int32.toInt h, fun h => Int32.toInt_inj.mp h⟩
theorem pm_add (x y : Int) : Int32.ofInt x + Int32.ofInt y = Int32.ofInt (x + y) := (Int32.ofInt_add x y).symm
theorem pm_sub (x y : Int) : Int32.ofInt x - Int32.ofInt y = Int32.ofInt (x - y) := (Int32.ofInt_sub x y).symm
theorem pm_mul (x y : Int) : Int32.ofInt x * Int32.ofInt y = Int32.ofInt (x * y) := (Int32.ofInt_mul x y).symm
theorem pm_neg (x : Int) : - Int32.ofInt x = Int32.ofInt (-x) := (Int32.ofInt_neg x).symm
theorem pm_in {x : Int} {n : Nat} (h1 : 0 ≤ wr x) (h2 : wr x < n) : vp_in (Int32.ofInt x) n := vp_in_iff.mpr ⟨h1, h2⟩
theorem pm_cl (x : Int) : (Int32.ofInt x).toNatClampNeg = (wr x).toNat := rfl
end
section
/-! ===== words, statics, the judgement ===== -/
abbrev pm_D : Type := MethodName × ByteArray × Nat × Option FieldType
def pm_G : List Cond := lw_tbl.filter goodWord
def pm_wds (md : pm_D) : List Cond := Cond.code md.1 md.2.1 md.2.2.1 md.2.2.2 :: pm_G
theorem pm_wds_in {md : pm_D} {w : Cond} (h : w ∈ pm_G) : w ∈ pm_wds md := List.mem_cons_of_mem _ h
theorem pm_good {md md' : pm_D} (hc : Cond.code md'.1 md'.2.1 md'.2.2.1 md'.2.2.2 ∈ pm_G) : GoodIn (pm_wds md) (pm_wds md') := by
  intro w hw
  have hg : w ∈ pm_G := by
    rcases List.mem_cons.mp hw with rfl | h
    · exact hc
    · exact h
  exact ⟨pm_wds_in hg, good_of_word (List.mem_filter.mp hg).2⟩
theorem pm_inG {w : Cond} (i : Nat) (h : lw_tbl[i]? = some w) (hg : goodWord w = true) : w ∈ pm_G := List.mem_filter.mpr ⟨List.mem_of_getElem? h, hg⟩
def pm_st : List (String × String × List Int) := [("PaperMill", "ROW_WHEN_NONE", [20, 4, 0]), ("PaperMill", "ROW_LEAST", [-1, -1, 0]), ("PaperMill", "ROW_GREATEST", [60, 9, 1])]
def pm_isN : Cond → Bool
  | .fieldLinkNest .. => true
  | .methodLinkNest .. => true
  | _ => false
def pm_nw : List Cond := lw_tbl.filter pm_isN
theorem pm_inN {w : Cond} (i : Nat) (h : lw_tbl[i]? = some w) (hg : pm_isN w = true) : w ∈ pm_nw := List.mem_filter.mpr ⟨List.mem_of_getElem? h, hg⟩
def pm_Sf (k : pm_K) (A : Nat → Prop) (U : State) (H : Heap) : Prop :=
  (∀ (j : Nat) (q : String × String × List Int), pm_st[j]? = some q → va_Z q.1 q.2.1 "[I" (.ref (k.2.2.2 j)) A U H ∧ va_T .int (k.2.2.2 j) q.2.2.length (fun i => .int (Int32.ofInt (q.2.2.getD i 0))) A U H) ∧ (∀ w ∈ pm_nw, va_Nw w U) ∧ (Cond.arrayOver (.array .int)).before #[] U = true
theorem pm_find {vm vm' : Vm} (h : vm.Alike vm') (f : Class → Bool) (hf : ∀ k : Class, f k.bare = f k) : vm'.classes.findIdx? f = vm.classes.findIdx? f := by
  have e : ∀ v : Vm, v.bare.classes.findIdx? f = v.classes.findIdx? f := by
    intro v
    simp only [Vm.bare, Array.findIdx?_map]
    have : f ∘ Class.bare = f := funext hf
    rw [this]
  rw [← e vm', ← e vm, h.bare_eq]
theorem pm_AO {u U : State} (hvm : u.vm.Alike U.vm) {ty : FieldType} (h : (Cond.arrayOver ty).before #[] u = true) : (Cond.arrayOver ty).before #[] U = true := by
  have e : (Cond.arrayOver ty).before #[] U = (Cond.arrayOver ty).before #[] u := by
    simp only [Cond.before, Cond.holds, Cond.value, hvm.findClass]
    congr 1
    congr 1
    funext comp
    rw [pm_find hvm _ (fun k => rfl)]
    congr 1
    funext c
    exact hvm.class_map _ (fun k r _ _ => rfl) c
  rw [e]
  exact h
theorem pm_Nw {w : Cond} (hw : pm_isN w = true) {s U : State} (hW : s.WarmedH U.vm) (h : va_Nw w s) : va_Nw w U := by
  cases w <;> first | (simp [pm_isN] at hw; done) | exact va_Nw.warmF hW h | exact va_Nw.warmM hW h
theorem pm_Sf.to {k : pm_K} {A B : Nat → Prop} {s U : State} {H : Heap} {locs : List Loc} (h : pm_Sf k A s s.heap) (hS : va_S A s.heap H locs) (hB : ∀ q, q < H.size → B q → A q) (hW : s.WarmedH U.vm) (hU : U.heap = H) : pm_Sf k B U U.heap := by
  have hvm := hW.alike
  have hk : ∀ a : Nat, a < s.heap.size → ¬ A a → H[a]? = s.heap[a]? := hS.2.1
  refine ⟨fun j q hq => ?_, fun w hw => pm_Nw (List.mem_filter.mp hw).2 hW (h.2.1 w hw), pm_AO hvm h.2.2⟩
  obtain ⟨h1, h2⟩ := h.1 j q hq
  rw [hU]
  constructor
  · obtain ⟨cf, kf, fi, f, a, cell, g1, g2, g3, g4, g5, g6, g7, g8⟩ := (h1.kept hk).moved hvm
    exact ⟨cf, kf, fi, f, a, cell, g1, g2, g3, g4, g5, g6, g7, fun z => g8 (hB a (Array.getElem?_eq_some_iff.mp g5).1 z)⟩
  · obtain ⟨cell, g1, g2, g3, g4, g5, g6, g7⟩ := (h2.kept hk).moved hvm
    exact ⟨cell, g1, g2, g3, g4, g5, g6, fun z => g7 (hB _ (Array.getElem?_eq_some_iff.mp g1).1 z)⟩
def pm_tys (k : pm_K) : List (ClassId × FieldType) := [(k.2.1, .int), (k.2.2.1, .array .int)]
/-- a contract's start -/
def pm_Pc (k : pm_K) (ad : Nat → Nat) (lay : List pm_S) (σ : pm_M) (sz : Nat) (av : List pm_V) : Array Value → State → Prop :=
  va_Pc (av.map (pm_cv ad k.2.2.2)) (fun U => U.heap.size = sz ∧ va_P k.1 vwCl (pm_W k ad lay σ) U.heap ∧ va_K k.1 vwCl (pm_tys k) U ∧ va_D (fun _ => True) (pm_W k ad lay σ) ∧ pm_Sf k (va_A (pm_W k ad lay σ) sz) U U.heap)
/-- and its end -/
def pm_Qc (k : pm_K) (ad : Nat → Nat) (n0 : Nat) (r : Option pm_V) (lay' : List pm_S) (σ' : pm_M) (A : Nat → Prop) : Array Value → State → Outcome → State → Prop := fun _ st oc t =>
  (∃ ad' : Nat → Nat, (∀ c, (c < n0 ∨ lay'.length ≤ c) → ad' c = ad c) ∧ oc = .returned (r.map (pm_cv ad' k.2.2.2)) ∧ va_P k.1 vwCl (pm_W k ad' lay' σ') t.heap ∧ va_K k.1 vwCl (pm_tys k) t ∧ va_D A (pm_W k ad' lay' σ')) ∧ va_F A st t
def pm_rm (d lo : Nat) (lay lay' : List pm_S) : Room := { frames := d, cells := lay'.length - lay.length, slots := pm_sl lay' - pm_sl lay, locals := lo }
/-- the contract: with these arguments in this world the method answers r, and the world is that -/
def pm_C (md : pm_D) (d lo : Nat) (av : List pm_V) (lay : List pm_S) (σ : pm_M) (r : Option pm_V) (lay' : List pm_S) (σ' : pm_M) : Prop :=
  (lay.length ≤ lay'.length ∧ pm_sl lay ≤ pm_sl lay') ∧ ∀ (l : Launch) (k : pm_K) (ad : Nat → Nat) (sz : Nat),
    Met l md.1 (pm_wds md) (pm_rm d lo lay lay') (pm_Pc k ad lay σ sz av) (pm_Qc k ad lay.length r lay' σ' (va_A (pm_W k ad lay σ) sz)) (lay'.length - lay.length) (pm_sl lay' - pm_sl lay) (va_A (pm_W k ad lay σ) sz)
def pm_X (md : pm_D) (k : pm_K) (A : Nat → Prop) (p : Program) (s : State) (m : MethodId) (args : Array Value) (meth : Method) (c : Code) : Prop :=
  p.tables.exec = Jvm.exec ∧ c.code = md.2.1 ∧ meth.sig.returnType = md.2.2.2 ∧ c.maxLocals = md.2.2.1 ∧ s.vm.findClass md.1.cls = some m.cls ∧ (∀ w ∈ pm_wds md, w.before args s = true) ∧ meth.locks = false ∧ meth.name = md.1.name ∧ (∀ q, s.heap.size ≤ q → A q) ∧ pm_Sf k A s s.heap ∧ va_K k.1 vwCl (pm_tys k) s
def pm_lc (ad sd : Nat → Nat) (L : List (Option pm_V)) : List (Nat × Value) := (L.mapIdx (fun i o => o.map (fun v => (i, pm_cv ad sd v)))).filterMap id
/-- at pc with these locals, this stack and this world the method comes to its end: answer r, world lay' σ' -/
def pm_J (md : pm_D) (d lo : Nat) (lay0 : List pm_S) (r : Option pm_V) (lay' : List pm_S) (σ' : pm_M) (pc : Nat) (L : List (Option pm_V)) (S : List pm_V) (lay : List pm_S) (σ : pm_M) : Prop :=
  (lay.length ≤ lay'.length ∧ pm_sl lay ≤ pm_sl lay') ∧ ∀ (p : Program) (l : Launch) (e : Env) (s : State) (m : MethodId) (args : Array Value) (below : List Frame) (meth : Method) (c : Code) (k : pm_K) (A : Nat → Prop) (ad0 ad : Nat → Nat) (H : Heap) (locs : List Loc) (ls : Array Slot),
    pm_X md k A p s m args meth c → (∀ c, (c < lay0.length ∨ lay.length ≤ c) → ad c = ad0 c) → lay0.length ≤ lay.length → pm_sl lay0 ≤ pm_sl lay →
    va_P k.1 vwCl (pm_W k ad lay σ) H → va_D A (pm_W k ad lay σ) → va_S A s.heap H locs → lv_has ls md.2.2.1 (pm_lc ad k.2.2.2 L) →
    W p l e (pm_rm d lo lay0 lay') s m args below meth c H locs (lay.length - lay0.length) (pm_sl lay - pm_sl lay0) (MQ below (pm_Qc k ad0 lay0.length r lay' σ' A) args s (lay'.length - lay0.length) (pm_sl lay' - pm_sl lay0) A) (F0 m pc ls (S.map (pm_cv ad k.2.2.2)))
theorem pm_lc_mem {ad sd : Nat → Nat} {L : List (Option pm_V)} {q : Nat × Value} : q ∈ pm_lc ad sd L ↔ ∃ v, L[q.1]? = some (some v) ∧ q.2 = pm_cv ad sd v := by
  unfold pm_lc
  simp only [List.mem_filterMap, id, exists_eq_right]
  rw [List.mem_mapIdx]
  constructor
  · rintro ⟨i, hi, h⟩
    cases ho : L[i] with
    | none => rw [ho] at h; cases h
    | some v =>
      rw [ho] at h
      cases h
      exact ⟨v, by rw [List.getElem?_eq_getElem hi, ho], rfl⟩
  · rintro ⟨v, h1, h2⟩
    obtain ⟨hi, he⟩ := List.getElem?_eq_some_iff.mp h1
    exact ⟨q.1, hi, by rw [he]; show some (q.1, pm_cv ad sd v) = some q; rw [← h2]⟩
theorem pm_lc_at {ls : Array Slot} {n : Nat} {ad sd : Nat → Nat} {L : List (Option pm_V)} (h : lv_has ls n (pm_lc ad sd L)) {i : Nat} {v : pm_V} (hi : L[i]? = some (some v)) : ls[i]? = some (.val (pm_cv ad sd v)) :=
  h.2.2 (i, pm_cv ad sd v) (pm_lc_mem.mpr ⟨v, hi, rfl⟩)
theorem pm_lc_sub {ls : Array Slot} {n : Nat} {ad sd : Nat → Nat} {L : List (Option pm_V)} {l : List (Nat × Value)} (h : lv_has ls n l) (hs : ∀ q ∈ pm_lc ad sd L, q ∈ l) : lv_has ls n (pm_lc ad sd L) := ⟨h.1, h.2.1, fun q hq => h.2.2 q (hs q hq)⟩
/-- what lies ahead of a place isn't a long -/
def pm_ok1 (L : List (Option pm_V)) (i : Nat) : Bool := match i with
  | 0 => true
  | j + 1 => match L[j]? with
    | some (some (.inr (.inl _))) => false
    | _ => true
theorem pm_ok1_spec {L : List (Option pm_V)} {j : Nat} {v : pm_V} (h : pm_ok1 L (j + 1) = true) (hv : L[j]? = some (some v)) : pm_ct v = 1 := by
  unfold pm_ok1 at h
  simp only [hv] at h
  rcases v with x | x | (_ | r) | y
  · rfl
  · simp at h
  · rfl
  · rfl
  · rfl
theorem pm_lc_set {ls' : Array Slot} {n : Nat} {ad sd : Nat → Nat} {L : List (Option pm_V)} {i : Nat} {v : pm_V} (hok : pm_ok1 L i = true)
    (h : lv_has ls' n ((i, pm_cv ad sd v) :: (pm_lc ad sd L).filter (fun q => !(q.1 == i) && !(q.1 + 1 == i && q.2.category == 2)))) : lv_has ls' n (pm_lc ad sd (L.set i (some v))) := by
  refine pm_lc_sub h (fun q hq => ?_)
  obtain ⟨u, h1, h2⟩ := pm_lc_mem.mp hq
  by_cases hi : q.1 = i
  · rw [hi] at h1
    rw [List.getElem?_set] at h1
    simp only [if_true] at h1
    split at h1
    · cases h1
      exact List.mem_cons.mpr (Or.inl (Prod.ext hi h2))
    · cases h1
  · rw [List.getElem?_set_ne (Ne.symm hi)] at h1
    refine List.mem_cons.mpr (Or.inr (List.mem_filter.mpr ⟨pm_lc_mem.mpr ⟨u, h1, h2⟩, ?_⟩))
    have e1 : (q.1 == i) = false := by simpa using hi
    rw [e1]
    by_cases hj : q.1 + 1 = i
    · subst hj
      have := pm_ok1_spec hok h1
      rw [h2, pm_ct_eq, this]
      simp
    · have e2 : (q.1 + 1 == i) = false := by simpa using hj
      rw [e2]
      rfl
theorem pm_lc_set2 {ls' : Array Slot} {n : Nat} {ad sd : Nat → Nat} {L : List (Option pm_V)} {i : Nat} {v : pm_V} (hok : pm_ok1 L i = true)
    (h : lv_has ls' n ((i, pm_cv ad sd v) :: (pm_lc ad sd L).filter (fun q => !(q.1 == i) && (!(q.1 == i + 1) && !(q.1 + 1 == i && q.2.category == 2))))) : lv_has ls' n (pm_lc ad sd ((L.set i (some v)).set (i + 1) none)) := by
  refine pm_lc_sub h (fun q hq => ?_)
  obtain ⟨u, h1, h2⟩ := pm_lc_mem.mp hq
  have hne : q.1 ≠ i + 1 := by
    intro e
    rw [e, List.getElem?_set] at h1
    simp only [if_true] at h1
    split at h1 <;> cases h1
  rw [List.getElem?_set_ne (Ne.symm hne)] at h1
  by_cases hi : q.1 = i
  · rw [hi] at h1
    rw [List.getElem?_set] at h1
    simp only [if_true] at h1
    split at h1
    · cases h1
      exact List.mem_cons.mpr (Or.inl (Prod.ext hi h2))
    · cases h1
  · rw [List.getElem?_set_ne (Ne.symm hi)] at h1
    refine List.mem_cons.mpr (Or.inr (List.mem_filter.mpr ⟨pm_lc_mem.mpr ⟨u, h1, h2⟩, ?_⟩))
    have e1 : (q.1 == i) = false := by simpa using hi
    have e3 : (q.1 == i + 1) = false := by simpa using hne
    rw [e1, e3]
    by_cases hj : q.1 + 1 = i
    · subst hj
      have := pm_ok1_spec hok h1
      rw [h2, pm_ct_eq, this]
      simp
    · have e2 : (q.1 + 1 == i) = false := by simpa using hj
      rw [e2]
      rfl
end
section
/-! ===== the rows: an instruction a row ===== -/
theorem pm_eq0 (x : Int) : Int32.ofInt x = 0 ↔ wr x = 0 := pm_eq x 0
theorem pm_lt0 (x : Int) : Int32.ofInt x < 0 ↔ wr x < 0 := pm_lt x 0
theorem pm_ge0 (x : Int) : 0 ≤ Int32.ofInt x ↔ 0 ≤ wr x := pm_le 0 x
theorem pm_gt0 (x : Int) : 0 < Int32.ofInt x ↔ 0 < wr x := pm_lt 0 x
theorem pm_le0 (x : Int) : Int32.ofInt x ≤ 0 ↔ wr x ≤ 0 := pm_le x 0
theorem pm_div (x y : Int) : Int32.ofInt x / Int32.ofInt y = Int32.ofInt (Int.tdiv (wr x) (wr y)) := by
  apply Int32.toInt_inj.mp
  rw [Int32.toInt_div]
  exact Int32.toInt_ofInt.symm
theorem pm_rem (x y : Int) : Int32.ofInt x - Int32.ofInt x / Int32.ofInt y * Int32.ofInt y = Int32.ofInt (Int.tmod (wr x) (wr y)) := by
  rw [pm_div, ← pm_ofw x, ← pm_ofw y, pm_mul, pm_sub, Int.tmod_def, Int.mul_comm]
def pm_and (x y : Int) : Int := (Int32.ofInt x &&& Int32.ofInt y).toInt
def pm_or (x y : Int) : Int := (Int32.ofInt x ||| Int32.ofInt y).toInt
def pm_shl (x y : Int) : Int := (Int32.ofInt x <<< (Int32.ofInt y &&& 31)).toInt
def pm_shr (x y : Int) : Int := (Int32.ofInt x >>> (Int32.ofInt y &&& 31)).toInt
def pm_ushr (x y : Int) : Int := ((Int32.ofInt x).toUInt32 >>> ((Int32.ofInt y).toUInt32 &&& Int32.toUInt32 31)).toInt32.toInt
theorem pm_back (x : Int32) : Int32.ofInt x.toInt = x := Int32.ofInt_toInt x
def pm_cmp (x y : Int) : Int := if wl y < wl x then 1 else if wl x = wl y then 0 else -1
theorem pm_i2l (x : Int) : (Int32.ofInt x).toInt64 = Int64.ofInt (wr x) := by
  apply Int64.toInt_inj.mp
  rw [Int32.toInt_toInt64]
  have h := wr_rng x
  exact (wl_eq (x := wr x) (by omega) (by omega)).symm
theorem pm_lcmp (x y : Int) : lg_cmp (Int64.ofInt x) (Int64.ofInt y) = Int32.ofInt (pm_cmp x y) := by
  unfold lg_cmp pm_cmp
  have e1 : (Int64.ofInt y < Int64.ofInt x) ↔ wl y < wl x := Int64.lt_iff_toInt_lt
  have e2 : (Int64.ofInt x = Int64.ofInt y) ↔ wl x = wl y := ⟨fun h => congrArg Int64.toInt h, fun h => Int64.toInt_inj.mp h⟩
  by_cases c1 : wl y < wl x
  · rw [if_pos (e1.mpr c1), if_pos c1]
    rfl
  · by_cases c2 : wl x = wl y
    · rw [if_neg (fun q => c1 (e1.mp q)), if_neg c1, if_pos (e2.mpr c2), if_pos c2]
      rfl
    · rw [if_neg (fun q => c1 (e1.mp q)), if_neg c1, if_neg (fun q => c2 (e2.mp q)), if_neg c2]
      rfl
section PR
variable {md : pm_D} {d lo : Nat} {lay0 lay lay' : List pm_S} {r : Option pm_V} {σ σ' : pm_M} {pc : Nat} {L : List (Option pm_V)} {S : List pm_V}
theorem pr_iconst {n : Int} (hd : decode md.2.1 pc = .ok (.iconst n, 1)) (kk : pm_J md d lo lay0 r lay' σ' (pc + 1) L (pv_i n :: S) lay σ) : pm_J md d lo lay0 r lay' σ' pc L (S) lay σ := ⟨kk.1, fun p l e s m args below meth c k A ad0 ad H locs ls X h1 h2 h3 hP hD hS hl => lv_iconst X.1 X.2.1 hd rfl (kk.2 p l e s m args below meth c k A ad0 ad H locs ls X h1 h2 h3 hP hD hS hl)⟩
theorem pr_bipush {n : Int} (hd : decode md.2.1 pc = .ok (.bipush n, 2)) (hv : (Int8.ofInt n).toInt32 = Int32.ofInt n) (kk : pm_J md d lo lay0 r lay' σ' (pc + 2) L (pv_i n :: S) lay σ) : pm_J md d lo lay0 r lay' σ' pc L (S) lay σ := ⟨kk.1, fun p l e s m args below meth c k A ad0 ad H locs ls X h1 h2 h3 hP hD hS hl => lv_bipush X.1 X.2.1 hd hv (kk.2 p l e s m args below meth c k A ad0 ad H locs ls X h1 h2 h3 hP hD hS hl)⟩
theorem pr_sipush {n : Int} (hd : decode md.2.1 pc = .ok (.sipush n, 3)) (hv : (Int16.ofInt n).toInt32 = Int32.ofInt n) (kk : pm_J md d lo lay0 r lay' σ' (pc + 3) L (pv_i n :: S) lay σ) : pm_J md d lo lay0 r lay' σ' pc L (S) lay σ := ⟨kk.1, fun p l e s m args below meth c k A ad0 ad H locs ls X h1 h2 h3 hP hD hS hl => lv_sipush X.1 X.2.1 hd hv (kk.2 p l e s m args below meth c k A ad0 ad H locs ls X h1 h2 h3 hP hD hS hl)⟩
theorem pr_ldc {n : Int} {idx : Nat} (hd : decode md.2.1 pc = .ok (.ldc idx, 2)) (hw : Cond.constant md.1.cls idx (Int32.ofInt n) ∈ pm_G) (kk : pm_J md d lo lay0 r lay' σ' (pc + 2) L (pv_i n :: S) lay σ) : pm_J md d lo lay0 r lay' σ' pc L (S) lay σ := ⟨kk.1, fun p l e s m args below meth c k A ad0 ad H locs ls X h1 h2 h3 hP hD hS hl => lv_ldc X.1 X.2.1 X.2.2.2.2.1 (X.2.2.2.2.2.1 _ (pm_wds_in hw)) hd (kk.2 p l e s m args below meth c k A ad0 ad H locs ls X h1 h2 h3 hP hD hS hl)⟩
theorem pr_ldcw {n : Int} {idx : Nat} (hd : decode md.2.1 pc = .ok (.ldc_w idx, 3)) (hw : Cond.constant md.1.cls idx (Int32.ofInt n) ∈ pm_G) (kk : pm_J md d lo lay0 r lay' σ' (pc + 3) L (pv_i n :: S) lay σ) : pm_J md d lo lay0 r lay' σ' pc L (S) lay σ := ⟨kk.1, fun p l e s m args below meth c k A ad0 ad H locs ls X h1 h2 h3 hP hD hS hl => lv_ldcw X.1 X.2.1 X.2.2.2.2.1 (X.2.2.2.2.2.1 _ (pm_wds_in hw)) hd (kk.2 p l e s m args below meth c k A ad0 ad H locs ls X h1 h2 h3 hP hD hS hl)⟩
theorem pr_ldc2 {n : Int} {idx : Nat} (hd : decode md.2.1 pc = .ok (.ldc2_w idx, 3)) (hw : Cond.constantLong md.1.cls idx (Int64.ofInt n) ∈ pm_G) (kk : pm_J md d lo lay0 r lay' σ' (pc + 3) L (pv_l n :: S) lay σ) : pm_J md d lo lay0 r lay' σ' pc L (S) lay σ := ⟨kk.1, fun p l e s m args below meth c k A ad0 ad H locs ls X h1 h2 h3 hP hD hS hl => lv_ldc2 X.1 X.2.1 X.2.2.2.2.1 (X.2.2.2.2.2.1 _ (pm_wds_in hw)) hd (kk.2 p l e s m args below meth c k A ad0 ad H locs ls X h1 h2 h3 hP hD hS hl)⟩
theorem pr_lconst {n : Fin 2} {z : Int} (hd : decode md.2.1 pc = .ok (.lconst n, 1)) (hv : Int64.ofNat (n : Nat) = Int64.ofInt z) (kk : pm_J md d lo lay0 r lay' σ' (pc + 1) L (pv_l z :: S) lay σ) : pm_J md d lo lay0 r lay' σ' pc L (S) lay σ := ⟨kk.1, fun p l e s m args below meth c k A ad0 ad H locs ls X h1 h2 h3 hP hD hS hl => lv_lconst X.1 X.2.1 hd hv (kk.2 p l e s m args below meth c k A ad0 ad H locs ls X h1 h2 h3 hP hD hS hl)⟩
theorem pr_iload_n {q : Fin 4} {x : Int} (hd : decode md.2.1 pc = .ok (.iload_n q, 1)) (hL : L[(q : Nat)]? = some (some (pv_i x))) (kk : pm_J md d lo lay0 r lay' σ' (pc + 1) L (pv_i x :: S) lay σ) : pm_J md d lo lay0 r lay' σ' pc L (S) lay σ := ⟨kk.1, fun p l e s m args below meth c k A ad0 ad H locs ls X h1 h2 h3 hP hD hS hl => lv_iload_n X.1 X.2.1 hd rfl (pm_lc_at hl hL) (kk.2 p l e s m args below meth c k A ad0 ad H locs ls X h1 h2 h3 hP hD hS hl)⟩
theorem pr_iload {i : Nat} {x : Int} (hd : decode md.2.1 pc = .ok (.iload i, 2)) (hL : L[i]? = some (some (pv_i x))) (kk : pm_J md d lo lay0 r lay' σ' (pc + 2) L (pv_i x :: S) lay σ) : pm_J md d lo lay0 r lay' σ' pc L (S) lay σ := ⟨kk.1, fun p l e s m args below meth c k A ad0 ad H locs ls X h1 h2 h3 hP hD hS hl => lv_iload X.1 X.2.1 hd (pm_lc_at hl hL) (kk.2 p l e s m args below meth c k A ad0 ad H locs ls X h1 h2 h3 hP hD hS hl)⟩
theorem pr_lload {i : Nat} {x : Int} (hd : decode md.2.1 pc = .ok (.lload i, 2)) (hL : L[i]? = some (some (pv_l x))) (kk : pm_J md d lo lay0 r lay' σ' (pc + 2) L (pv_l x :: S) lay σ) : pm_J md d lo lay0 r lay' σ' pc L (S) lay σ := ⟨kk.1, fun p l e s m args below meth c k A ad0 ad H locs ls X h1 h2 h3 hP hD hS hl => lv_lload X.1 X.2.1 hd (pm_lc_at hl hL) (kk.2 p l e s m args below meth c k A ad0 ad H locs ls X h1 h2 h3 hP hD hS hl)⟩
theorem pr_aload_n {q : Fin 4} {x : Nat} (hd : decode md.2.1 pc = .ok (.aload_n q, 1)) (hL : L[(q : Nat)]? = some (some (pv_r x))) (kk : pm_J md d lo lay0 r lay' σ' (pc + 1) L (pv_r x :: S) lay σ) : pm_J md d lo lay0 r lay' σ' pc L (S) lay σ := ⟨kk.1, fun p l e s m args below meth c k A ad0 ad H locs ls X h1 h2 h3 hP hD hS hl => lv_aload_n X.1 X.2.1 hd rfl (pm_lc_at hl hL) (kk.2 p l e s m args below meth c k A ad0 ad H locs ls X h1 h2 h3 hP hD hS hl)⟩
theorem pr_aload {i : Nat} {x : Nat} (hd : decode md.2.1 pc = .ok (.aload i, 2)) (hL : L[i]? = some (some (pv_r x))) (kk : pm_J md d lo lay0 r lay' σ' (pc + 2) L (pv_r x :: S) lay σ) : pm_J md d lo lay0 r lay' σ' pc L (S) lay σ := ⟨kk.1, fun p l e s m args below meth c k A ad0 ad H locs ls X h1 h2 h3 hP hD hS hl => lv_aload X.1 X.2.1 hd (pm_lc_at hl hL) (kk.2 p l e s m args below meth c k A ad0 ad H locs ls X h1 h2 h3 hP hD hS hl)⟩
theorem pr_istore_n {q : Fin 4} {x : Int} (hd : decode md.2.1 pc = .ok (.istore_n q, 1)) (hi : (q : Nat) < md.2.2.1) (hok : pm_ok1 L q = true) (kk : pm_J md d lo lay0 r lay' σ' (pc + 1) (L.set q (some (pv_i x))) (S) lay σ) : pm_J md d lo lay0 r lay' σ' pc L (pv_i x :: S) lay σ := ⟨kk.1, fun p l e s m args below meth c k A ad0 ad H locs ls X h1 h2 h3 hP hD hS hl => lv_istore_n X.1 X.2.1 hd rfl hl hi rfl (fun ls' hl' => kk.2 p l e s m args below meth c k A ad0 ad H locs ls' X h1 h2 h3 hP hD hS (pm_lc_set hok hl'))⟩
theorem pr_istore {i : Nat} {x : Int} (hd : decode md.2.1 pc = .ok (.istore i, 2)) (hi : i < md.2.2.1) (hok : pm_ok1 L i = true) (kk : pm_J md d lo lay0 r lay' σ' (pc + 2) (L.set i (some (pv_i x))) (S) lay σ) : pm_J md d lo lay0 r lay' σ' pc L (pv_i x :: S) lay σ := ⟨kk.1, fun p l e s m args below meth c k A ad0 ad H locs ls X h1 h2 h3 hP hD hS hl => lv_istore X.1 X.2.1 hd hl hi rfl (fun ls' hl' => kk.2 p l e s m args below meth c k A ad0 ad H locs ls' X h1 h2 h3 hP hD hS (pm_lc_set hok hl'))⟩
theorem pr_astore_n {q : Fin 4} {x : Nat} (hd : decode md.2.1 pc = .ok (.astore_n q, 1)) (hi : (q : Nat) < md.2.2.1) (hok : pm_ok1 L q = true) (kk : pm_J md d lo lay0 r lay' σ' (pc + 1) (L.set q (some (pv_r x))) (S) lay σ) : pm_J md d lo lay0 r lay' σ' pc L (pv_r x :: S) lay σ := ⟨kk.1, fun p l e s m args below meth c k A ad0 ad H locs ls X h1 h2 h3 hP hD hS hl => lv_astore_n X.1 X.2.1 hd rfl hl hi rfl (fun ls' hl' => kk.2 p l e s m args below meth c k A ad0 ad H locs ls' X h1 h2 h3 hP hD hS (pm_lc_set hok hl'))⟩
theorem pr_astore {i : Nat} {x : Nat} (hd : decode md.2.1 pc = .ok (.astore i, 2)) (hi : i < md.2.2.1) (hok : pm_ok1 L i = true) (kk : pm_J md d lo lay0 r lay' σ' (pc + 2) (L.set i (some (pv_r x))) (S) lay σ) : pm_J md d lo lay0 r lay' σ' pc L (pv_r x :: S) lay σ := ⟨kk.1, fun p l e s m args below meth c k A ad0 ad H locs ls X h1 h2 h3 hP hD hS hl => lv_astore X.1 X.2.1 hd hl hi rfl (fun ls' hl' => kk.2 p l e s m args below meth c k A ad0 ad H locs ls' X h1 h2 h3 hP hD hS (pm_lc_set hok hl'))⟩
theorem pr_lstore {i : Nat} {x : Int} (hd : decode md.2.1 pc = .ok (.lstore i, 2)) (hi : i + 1 < md.2.2.1) (hok : pm_ok1 L i = true) (kk : pm_J md d lo lay0 r lay' σ' (pc + 2) ((L.set i (some (pv_l x))).set (i + 1) none) (S) lay σ) : pm_J md d lo lay0 r lay' σ' pc L (pv_l x :: S) lay σ := ⟨kk.1, fun p l e s m args below meth c k A ad0 ad H locs ls X h1 h2 h3 hP hD hS hl => lv_lstore X.1 X.2.1 hd hl hi rfl (fun ls' hl' => kk.2 p l e s m args below meth c k A ad0 ad H locs ls' X h1 h2 h3 hP hD hS (pm_lc_set2 hok hl'))⟩
theorem pr_iinc {i : Nat} {n x : Int} (hd : decode md.2.1 pc = .ok (.iinc i n, 3)) (hL : L[i]? = some (some (pv_i x))) (hi : i < md.2.2.1) (hok : pm_ok1 L i = true) (kk : pm_J md d lo lay0 r lay' σ' (pc + 3) (L.set i (some (pv_i (x + n)))) S lay σ) : pm_J md d lo lay0 r lay' σ' pc L S lay σ := ⟨kk.1, fun p l e s m args below meth c k A ad0 ad H locs ls X h1 h2 h3 hP hD hS hl => by
  obtain ⟨j, hj⟩ := List.getElem?_of_mem (pm_lc_mem (q := (i, pm_cv ad k.2.2.2 (pv_i x))).mpr ⟨_, hL, rfl⟩)
  exact lv_iinc X.1 X.2.1 hd hl hj (pm_add x n) hi rfl (fun ls' hl' => kk.2 p l e s m args below meth c k A ad0 ad H locs ls' X h1 h2 h3 hP hD hS (pm_lc_set hok hl'))⟩
theorem pr_iadd {x y : Int} (hd : decode md.2.1 pc = .ok (.iadd, 1)) (kk : pm_J md d lo lay0 r lay' σ' (pc + 1) L (pv_i (x + y) :: S) lay σ) : pm_J md d lo lay0 r lay' σ' pc L (pv_i y :: pv_i x :: S) lay σ := ⟨kk.1, fun p l e s m args below meth c k A ad0 ad H locs ls X h1 h2 h3 hP hD hS hl => lv_iadd X.1 X.2.1 hd (by rw [pm_add x y]; exact kk.2 p l e s m args below meth c k A ad0 ad H locs ls X h1 h2 h3 hP hD hS hl)⟩
theorem pr_isub {x y : Int} (hd : decode md.2.1 pc = .ok (.isub, 1)) (kk : pm_J md d lo lay0 r lay' σ' (pc + 1) L (pv_i (x - y) :: S) lay σ) : pm_J md d lo lay0 r lay' σ' pc L (pv_i y :: pv_i x :: S) lay σ := ⟨kk.1, fun p l e s m args below meth c k A ad0 ad H locs ls X h1 h2 h3 hP hD hS hl => lv_isub X.1 X.2.1 hd (by rw [pm_sub x y]; exact kk.2 p l e s m args below meth c k A ad0 ad H locs ls X h1 h2 h3 hP hD hS hl)⟩
theorem pr_imul {x y : Int} (hd : decode md.2.1 pc = .ok (.imul, 1)) (kk : pm_J md d lo lay0 r lay' σ' (pc + 1) L (pv_i (x * y) :: S) lay σ) : pm_J md d lo lay0 r lay' σ' pc L (pv_i y :: pv_i x :: S) lay σ := ⟨kk.1, fun p l e s m args below meth c k A ad0 ad H locs ls X h1 h2 h3 hP hD hS hl => lv_imul X.1 X.2.1 hd (by rw [pm_mul x y]; exact kk.2 p l e s m args below meth c k A ad0 ad H locs ls X h1 h2 h3 hP hD hS hl)⟩
theorem pr_ineg {x : Int} (hd : decode md.2.1 pc = .ok (.ineg, 1)) (kk : pm_J md d lo lay0 r lay' σ' (pc + 1) L (pv_i (-x) :: S) lay σ) : pm_J md d lo lay0 r lay' σ' pc L (pv_i x :: S) lay σ := ⟨kk.1, fun p l e s m args below meth c k A ad0 ad H locs ls X h1 h2 h3 hP hD hS hl => lv_ineg X.1 X.2.1 hd (by rw [pm_neg x]; exact kk.2 p l e s m args below meth c k A ad0 ad H locs ls X h1 h2 h3 hP hD hS hl)⟩
theorem pr_idiv {x y x' y' : Int} (hd : decode md.2.1 pc = .ok (.idiv, 1)) (hx : wr x = x') (hy : wr y = y') (hn : ¬ y' = 0) (kk : pm_J md d lo lay0 r lay' σ' (pc + 1) L (pv_i (Int.tdiv x' y') :: S) lay σ) : pm_J md d lo lay0 r lay' σ' pc L (pv_i y :: pv_i x :: S) lay σ := ⟨kk.1, fun p l e s m args below meth c k A ad0 ad H locs ls X h1 h2 h3 hP hD hS hl => lv_idiv X.1 X.2.1 hd (fun q => hn (hy ▸ (pm_eq0 y).mp q)) (by rw [pm_div x y, hx, hy]; exact kk.2 p l e s m args below meth c k A ad0 ad H locs ls X h1 h2 h3 hP hD hS hl)⟩
theorem pr_irem {x y x' y' : Int} (hd : decode md.2.1 pc = .ok (.irem, 1)) (hx : wr x = x') (hy : wr y = y') (hn : ¬ y' = 0) (kk : pm_J md d lo lay0 r lay' σ' (pc + 1) L (pv_i (Int.tmod x' y') :: S) lay σ) : pm_J md d lo lay0 r lay' σ' pc L (pv_i y :: pv_i x :: S) lay σ := ⟨kk.1, fun p l e s m args below meth c k A ad0 ad H locs ls X h1 h2 h3 hP hD hS hl => lv_irem X.1 X.2.1 hd (fun q => hn (hy ▸ (pm_eq0 y).mp q)) (by rw [pm_rem x y, hx, hy]; exact kk.2 p l e s m args below meth c k A ad0 ad H locs ls X h1 h2 h3 hP hD hS hl)⟩
theorem pr_iand {x y : Int} (hd : decode md.2.1 pc = .ok (.iand, 1)) (kk : pm_J md d lo lay0 r lay' σ' (pc + 1) L (pv_i (pm_and x y) :: S) lay σ) : pm_J md d lo lay0 r lay' σ' pc L (pv_i y :: pv_i x :: S) lay σ := ⟨kk.1, fun p l e s m args below meth c k A ad0 ad H locs ls X h1 h2 h3 hP hD hS hl => lv_iand X.1 X.2.1 hd (by rw [← pm_back (Int32.ofInt x &&& Int32.ofInt y)]; exact kk.2 p l e s m args below meth c k A ad0 ad H locs ls X h1 h2 h3 hP hD hS hl)⟩
theorem pr_ior {x y : Int} (hd : decode md.2.1 pc = .ok (.ior, 1)) (kk : pm_J md d lo lay0 r lay' σ' (pc + 1) L (pv_i (pm_or x y) :: S) lay σ) : pm_J md d lo lay0 r lay' σ' pc L (pv_i y :: pv_i x :: S) lay σ := ⟨kk.1, fun p l e s m args below meth c k A ad0 ad H locs ls X h1 h2 h3 hP hD hS hl => lv_ior X.1 X.2.1 hd (by rw [← pm_back (Int32.ofInt x ||| Int32.ofInt y)]; exact kk.2 p l e s m args below meth c k A ad0 ad H locs ls X h1 h2 h3 hP hD hS hl)⟩
theorem pr_ishl {x y : Int} (hd : decode md.2.1 pc = .ok (.ishl, 1)) (kk : pm_J md d lo lay0 r lay' σ' (pc + 1) L (pv_i (pm_shl x y) :: S) lay σ) : pm_J md d lo lay0 r lay' σ' pc L (pv_i y :: pv_i x :: S) lay σ := ⟨kk.1, fun p l e s m args below meth c k A ad0 ad H locs ls X h1 h2 h3 hP hD hS hl => lv_ishl X.1 X.2.1 hd (by rw [← pm_back (Int32.ofInt x <<< (Int32.ofInt y &&& 31))]; exact kk.2 p l e s m args below meth c k A ad0 ad H locs ls X h1 h2 h3 hP hD hS hl)⟩
theorem pr_ishr {x y : Int} (hd : decode md.2.1 pc = .ok (.ishr, 1)) (kk : pm_J md d lo lay0 r lay' σ' (pc + 1) L (pv_i (pm_shr x y) :: S) lay σ) : pm_J md d lo lay0 r lay' σ' pc L (pv_i y :: pv_i x :: S) lay σ := ⟨kk.1, fun p l e s m args below meth c k A ad0 ad H locs ls X h1 h2 h3 hP hD hS hl => lv_ishr X.1 X.2.1 hd (by rw [← pm_back (Int32.ofInt x >>> (Int32.ofInt y &&& 31))]; exact kk.2 p l e s m args below meth c k A ad0 ad H locs ls X h1 h2 h3 hP hD hS hl)⟩
theorem pr_iushr {x y : Int} (hd : decode md.2.1 pc = .ok (.iushr, 1)) (kk : pm_J md d lo lay0 r lay' σ' (pc + 1) L (pv_i (pm_ushr x y) :: S) lay σ) : pm_J md d lo lay0 r lay' σ' pc L (pv_i y :: pv_i x :: S) lay σ := ⟨kk.1, fun p l e s m args below meth c k A ad0 ad H locs ls X h1 h2 h3 hP hD hS hl => lv_iushr X.1 X.2.1 hd (pm_back _).symm (kk.2 p l e s m args below meth c k A ad0 ad H locs ls X h1 h2 h3 hP hD hS hl)⟩
theorem pr_i2l {x x' : Int} (hd : decode md.2.1 pc = .ok (.i2l, 1)) (hx : wr x = x') (kk : pm_J md d lo lay0 r lay' σ' (pc + 1) L (pv_l x' :: S) lay σ) : pm_J md d lo lay0 r lay' σ' pc L (pv_i x :: S) lay σ := ⟨kk.1, fun p l e s m args below meth c k A ad0 ad H locs ls X h1 h2 h3 hP hD hS hl => lv_i2l X.1 X.2.1 hd (by rw [pm_i2l x, hx]) (kk.2 p l e s m args below meth c k A ad0 ad H locs ls X h1 h2 h3 hP hD hS hl)⟩
theorem pr_ladd {x y : Int} (hd : decode md.2.1 pc = .ok (.ladd, 1)) (kk : pm_J md d lo lay0 r lay' σ' (pc + 1) L (pv_l (x + y) :: S) lay σ) : pm_J md d lo lay0 r lay' σ' pc L (pv_l y :: pv_l x :: S) lay σ := ⟨kk.1, fun p l e s m args below meth c k A ad0 ad H locs ls X h1 h2 h3 hP hD hS hl => lv_ladd X.1 X.2.1 hd (by rw [← Int64.ofInt_add]; exact kk.2 p l e s m args below meth c k A ad0 ad H locs ls X h1 h2 h3 hP hD hS hl)⟩
theorem pr_lmul {x y : Int} (hd : decode md.2.1 pc = .ok (.lmul, 1)) (kk : pm_J md d lo lay0 r lay' σ' (pc + 1) L (pv_l (x * y) :: S) lay σ) : pm_J md d lo lay0 r lay' σ' pc L (pv_l y :: pv_l x :: S) lay σ := ⟨kk.1, fun p l e s m args below meth c k A ad0 ad H locs ls X h1 h2 h3 hP hD hS hl => lv_lmul X.1 X.2.1 hd (by rw [← Int64.ofInt_mul]; exact kk.2 p l e s m args below meth c k A ad0 ad H locs ls X h1 h2 h3 hP hD hS hl)⟩
theorem pr_lcmp {x y : Int} (hd : decode md.2.1 pc = .ok (.lcmp, 1)) (kk : pm_J md d lo lay0 r lay' σ' (pc + 1) L (pv_i (pm_cmp x y) :: S) lay σ) : pm_J md d lo lay0 r lay' σ' pc L (pv_l y :: pv_l x :: S) lay σ := ⟨kk.1, fun p l e s m args below meth c k A ad0 ad H locs ls X h1 h2 h3 hP hD hS hl => W.lcmp X.1 X.2.1 hd (by rw [pm_lcmp x y]; exact kk.2 p l e s m args below meth c k A ad0 ad H locs ls X h1 h2 h3 hP hD hS hl)⟩
theorem pr_dup {v : pm_V} (hd : decode md.2.1 pc = .ok (.dup, 1)) (hv : pm_ct v = 1) (kk : pm_J md d lo lay0 r lay' σ' (pc + 1) L (v :: v :: S) lay σ) : pm_J md d lo lay0 r lay' σ' pc L (v :: S) lay σ := ⟨kk.1, fun p l e s m args below meth c k A ad0 ad H locs ls X h1 h2 h3 hP hD hS hl => lv_dup X.1 X.2.1 hd (by rw [pm_ct_eq]; exact hv) (kk.2 p l e s m args below meth c k A ad0 ad H locs ls X h1 h2 h3 hP hD hS hl)⟩
theorem pr_pop {v : pm_V} (hd : decode md.2.1 pc = .ok (.pop, 1)) (hv : pm_ct v = 1) (kk : pm_J md d lo lay0 r lay' σ' (pc + 1) L (S) lay σ) : pm_J md d lo lay0 r lay' σ' pc L (v :: S) lay σ := ⟨kk.1, fun p l e s m args below meth c k A ad0 ad H locs ls X h1 h2 h3 hP hD hS hl => lv_pop X.1 X.2.1 hd (by rw [pm_ct_eq]; exact hv) (kk.2 p l e s m args below meth c k A ad0 ad H locs ls X h1 h2 h3 hP hD hS hl)⟩
theorem pr_dup2 {v u : pm_V} (hd : decode md.2.1 pc = .ok (.dup2, 1)) (hv : pm_ct v = 1) (hu : pm_ct u = 1) (kk : pm_J md d lo lay0 r lay' σ' (pc + 1) L (v :: u :: v :: u :: S) lay σ) : pm_J md d lo lay0 r lay' σ' pc L (v :: u :: S) lay σ := ⟨kk.1, fun p l e s m args below meth c k A ad0 ad H locs ls X h1 h2 h3 hP hD hS hl => lv_dup2_11 X.1 X.2.1 hd (by rw [pm_ct_eq]; exact hv) (by rw [pm_ct_eq]; exact hu) (kk.2 p l e s m args below meth c k A ad0 ad H locs ls X h1 h2 h3 hP hD hS hl)⟩
theorem pr_goto {off : Int} {tgt : Nat} (hd : decode md.2.1 pc = .ok (.goto off, 3)) (ht : (pc : Int) + off = (tgt : Int)) (kk : pm_J md d lo lay0 r lay' σ' (tgt) L (S) lay σ) : pm_J md d lo lay0 r lay' σ' pc L (S) lay σ := ⟨kk.1, fun p l e s m args below meth c k A ad0 ad H locs ls X h1 h2 h3 hP hD hS hl => lv_goto X.1 X.2.1 hd ht (kk.2 p l e s m args below meth c k A ad0 ad H locs ls X h1 h2 h3 hP hD hS hl)⟩
theorem pr_if_eq {x x' : Int} {off : Int} {tgt : Nat} (hd : decode md.2.1 pc = .ok (.ifCond .eq off, 3)) (hx : wr x = x') (ht : (pc : Int) + off = (tgt : Int)) (kt : x' = 0 → pm_J md d lo lay0 r lay' σ' tgt L S lay σ) (kf : ¬ x' = 0 → pm_J md d lo lay0 r lay' σ' (pc + 3) L S lay σ) : pm_J md d lo lay0 r lay' σ' pc L (pv_i x :: S) lay σ := by
  refine ⟨?_, fun p l e s m args below meth c k A ad0 ad H locs ls X h1 h2 h3 hP hD hS hl => lv_if_eq X.1 X.2.1 hd ht (fun q => (kt (hx ▸ (pm_eq0 x).mp q)).2 p l e s m args below meth c k A ad0 ad H locs ls X h1 h2 h3 hP hD hS hl) (fun q => (kf (fun z => q ((pm_eq0 x).mpr (hx ▸ z)))).2 p l e s m args below meth c k A ad0 ad H locs ls X h1 h2 h3 hP hD hS hl)⟩
  by_cases q : x' = 0
  · exact (kt q).1
  · exact (kf q).1
theorem pr_if_lt {x x' : Int} {off : Int} {tgt : Nat} (hd : decode md.2.1 pc = .ok (.ifCond .lt off, 3)) (hx : wr x = x') (ht : (pc : Int) + off = (tgt : Int)) (kt : x' < 0 → pm_J md d lo lay0 r lay' σ' tgt L S lay σ) (kf : ¬ x' < 0 → pm_J md d lo lay0 r lay' σ' (pc + 3) L S lay σ) : pm_J md d lo lay0 r lay' σ' pc L (pv_i x :: S) lay σ := by
  refine ⟨?_, fun p l e s m args below meth c k A ad0 ad H locs ls X h1 h2 h3 hP hD hS hl => lv_if_lt X.1 X.2.1 hd ht (fun q => (kt (hx ▸ (pm_lt0 x).mp q)).2 p l e s m args below meth c k A ad0 ad H locs ls X h1 h2 h3 hP hD hS hl) (fun q => (kf (fun z => q ((pm_lt0 x).mpr (hx ▸ z)))).2 p l e s m args below meth c k A ad0 ad H locs ls X h1 h2 h3 hP hD hS hl)⟩
  by_cases q : x' < 0
  · exact (kt q).1
  · exact (kf q).1
theorem pr_if_ge {x x' : Int} {off : Int} {tgt : Nat} (hd : decode md.2.1 pc = .ok (.ifCond .ge off, 3)) (hx : wr x = x') (ht : (pc : Int) + off = (tgt : Int)) (kt : 0 ≤ x' → pm_J md d lo lay0 r lay' σ' tgt L S lay σ) (kf : ¬ 0 ≤ x' → pm_J md d lo lay0 r lay' σ' (pc + 3) L S lay σ) : pm_J md d lo lay0 r lay' σ' pc L (pv_i x :: S) lay σ := by
  refine ⟨?_, fun p l e s m args below meth c k A ad0 ad H locs ls X h1 h2 h3 hP hD hS hl => lv_if_ge X.1 X.2.1 hd ht (fun q => (kt (hx ▸ (pm_ge0 x).mp q)).2 p l e s m args below meth c k A ad0 ad H locs ls X h1 h2 h3 hP hD hS hl) (fun q => (kf (fun z => q ((pm_ge0 x).mpr (hx ▸ z)))).2 p l e s m args below meth c k A ad0 ad H locs ls X h1 h2 h3 hP hD hS hl)⟩
  by_cases q : 0 ≤ x'
  · exact (kt q).1
  · exact (kf q).1
theorem pr_if_gt {x x' : Int} {off : Int} {tgt : Nat} (hd : decode md.2.1 pc = .ok (.ifCond .gt off, 3)) (hx : wr x = x') (ht : (pc : Int) + off = (tgt : Int)) (kt : 0 < x' → pm_J md d lo lay0 r lay' σ' tgt L S lay σ) (kf : ¬ 0 < x' → pm_J md d lo lay0 r lay' σ' (pc + 3) L S lay σ) : pm_J md d lo lay0 r lay' σ' pc L (pv_i x :: S) lay σ := by
  refine ⟨?_, fun p l e s m args below meth c k A ad0 ad H locs ls X h1 h2 h3 hP hD hS hl => lv_if_gt X.1 X.2.1 hd ht (fun q => (kt (hx ▸ (pm_gt0 x).mp q)).2 p l e s m args below meth c k A ad0 ad H locs ls X h1 h2 h3 hP hD hS hl) (fun q => (kf (fun z => q ((pm_gt0 x).mpr (hx ▸ z)))).2 p l e s m args below meth c k A ad0 ad H locs ls X h1 h2 h3 hP hD hS hl)⟩
  by_cases q : 0 < x'
  · exact (kt q).1
  · exact (kf q).1
theorem pr_if_le {x x' : Int} {off : Int} {tgt : Nat} (hd : decode md.2.1 pc = .ok (.ifCond .le off, 3)) (hx : wr x = x') (ht : (pc : Int) + off = (tgt : Int)) (kt : x' ≤ 0 → pm_J md d lo lay0 r lay' σ' tgt L S lay σ) (kf : ¬ x' ≤ 0 → pm_J md d lo lay0 r lay' σ' (pc + 3) L S lay σ) : pm_J md d lo lay0 r lay' σ' pc L (pv_i x :: S) lay σ := by
  refine ⟨?_, fun p l e s m args below meth c k A ad0 ad H locs ls X h1 h2 h3 hP hD hS hl => lv_if_le X.1 X.2.1 hd ht (fun q => (kt (hx ▸ (pm_le0 x).mp q)).2 p l e s m args below meth c k A ad0 ad H locs ls X h1 h2 h3 hP hD hS hl) (fun q => (kf (fun z => q ((pm_le0 x).mpr (hx ▸ z)))).2 p l e s m args below meth c k A ad0 ad H locs ls X h1 h2 h3 hP hD hS hl)⟩
  by_cases q : x' ≤ 0
  · exact (kt q).1
  · exact (kf q).1
theorem pr_if_ne {x x' : Int} {off : Int} {tgt : Nat} (hd : decode md.2.1 pc = .ok (.ifCond .ne off, 3)) (hx : wr x = x') (ht : (pc : Int) + off = (tgt : Int)) (kt : ¬ x' = 0 → pm_J md d lo lay0 r lay' σ' tgt L S lay σ) (kf : x' = 0 → pm_J md d lo lay0 r lay' σ' (pc + 3) L S lay σ) : pm_J md d lo lay0 r lay' σ' pc L (pv_i x :: S) lay σ := by
  refine ⟨?_, fun p l e s m args below meth c k A ad0 ad H locs ls X h1 h2 h3 hP hD hS hl => lv_if_ne X.1 X.2.1 hd ht (fun q => (kt (fun z => q ((pm_eq0 x).mpr (hx ▸ z)))).2 p l e s m args below meth c k A ad0 ad H locs ls X h1 h2 h3 hP hD hS hl) (fun q => (kf (hx ▸ (pm_eq0 x).mp q)).2 p l e s m args below meth c k A ad0 ad H locs ls X h1 h2 h3 hP hD hS hl)⟩
  by_cases q : x' = 0
  · exact (kf q).1
  · exact (kt q).1
theorem pr_icmp_eq {x y x' y' : Int} {off : Int} {tgt : Nat} (hd : decode md.2.1 pc = .ok (.if_icmp .eq off, 3)) (hx : wr x = x') (hy : wr y = y') (ht : (pc : Int) + off = (tgt : Int)) (kt : x' = y' → pm_J md d lo lay0 r lay' σ' tgt L S lay σ) (kf : ¬ x' = y' → pm_J md d lo lay0 r lay' σ' (pc + 3) L S lay σ) : pm_J md d lo lay0 r lay' σ' pc L (pv_i y :: pv_i x :: S) lay σ := by
  refine ⟨?_, fun p l e s m args below meth c k A ad0 ad H locs ls X h1 h2 h3 hP hD hS hl => lv_icmp_eq X.1 X.2.1 hd ht (fun q => (kt (hx ▸ hy ▸ (pm_eq x y).mp q)).2 p l e s m args below meth c k A ad0 ad H locs ls X h1 h2 h3 hP hD hS hl) (fun q => (kf (fun z => q ((pm_eq x y).mpr (hx.symm ▸ hy.symm ▸ z)))).2 p l e s m args below meth c k A ad0 ad H locs ls X h1 h2 h3 hP hD hS hl)⟩
  by_cases q : x' = y'
  · exact (kt q).1
  · exact (kf q).1
theorem pr_icmp_lt {x y x' y' : Int} {off : Int} {tgt : Nat} (hd : decode md.2.1 pc = .ok (.if_icmp .lt off, 3)) (hx : wr x = x') (hy : wr y = y') (ht : (pc : Int) + off = (tgt : Int)) (kt : x' < y' → pm_J md d lo lay0 r lay' σ' tgt L S lay σ) (kf : ¬ x' < y' → pm_J md d lo lay0 r lay' σ' (pc + 3) L S lay σ) : pm_J md d lo lay0 r lay' σ' pc L (pv_i y :: pv_i x :: S) lay σ := by
  refine ⟨?_, fun p l e s m args below meth c k A ad0 ad H locs ls X h1 h2 h3 hP hD hS hl => lv_icmp_lt X.1 X.2.1 hd ht (fun q => (kt (hx ▸ hy ▸ (pm_lt x y).mp q)).2 p l e s m args below meth c k A ad0 ad H locs ls X h1 h2 h3 hP hD hS hl) (fun q => (kf (fun z => q ((pm_lt x y).mpr (hx.symm ▸ hy.symm ▸ z)))).2 p l e s m args below meth c k A ad0 ad H locs ls X h1 h2 h3 hP hD hS hl)⟩
  by_cases q : x' < y'
  · exact (kt q).1
  · exact (kf q).1
theorem pr_icmp_ge {x y x' y' : Int} {off : Int} {tgt : Nat} (hd : decode md.2.1 pc = .ok (.if_icmp .ge off, 3)) (hx : wr x = x') (hy : wr y = y') (ht : (pc : Int) + off = (tgt : Int)) (kt : y' ≤ x' → pm_J md d lo lay0 r lay' σ' tgt L S lay σ) (kf : ¬ y' ≤ x' → pm_J md d lo lay0 r lay' σ' (pc + 3) L S lay σ) : pm_J md d lo lay0 r lay' σ' pc L (pv_i y :: pv_i x :: S) lay σ := by
  refine ⟨?_, fun p l e s m args below meth c k A ad0 ad H locs ls X h1 h2 h3 hP hD hS hl => lv_icmp_ge X.1 X.2.1 hd ht (fun q => (kt (hx ▸ hy ▸ (pm_le y x).mp q)).2 p l e s m args below meth c k A ad0 ad H locs ls X h1 h2 h3 hP hD hS hl) (fun q => (kf (fun z => q ((pm_le y x).mpr (hx.symm ▸ hy.symm ▸ z)))).2 p l e s m args below meth c k A ad0 ad H locs ls X h1 h2 h3 hP hD hS hl)⟩
  by_cases q : y' ≤ x'
  · exact (kt q).1
  · exact (kf q).1
theorem pr_icmp_gt {x y x' y' : Int} {off : Int} {tgt : Nat} (hd : decode md.2.1 pc = .ok (.if_icmp .gt off, 3)) (hx : wr x = x') (hy : wr y = y') (ht : (pc : Int) + off = (tgt : Int)) (kt : y' < x' → pm_J md d lo lay0 r lay' σ' tgt L S lay σ) (kf : ¬ y' < x' → pm_J md d lo lay0 r lay' σ' (pc + 3) L S lay σ) : pm_J md d lo lay0 r lay' σ' pc L (pv_i y :: pv_i x :: S) lay σ := by
  refine ⟨?_, fun p l e s m args below meth c k A ad0 ad H locs ls X h1 h2 h3 hP hD hS hl => lv_icmp_gt X.1 X.2.1 hd ht (fun q => (kt (hx ▸ hy ▸ (pm_lt y x).mp q)).2 p l e s m args below meth c k A ad0 ad H locs ls X h1 h2 h3 hP hD hS hl) (fun q => (kf (fun z => q ((pm_lt y x).mpr (hx.symm ▸ hy.symm ▸ z)))).2 p l e s m args below meth c k A ad0 ad H locs ls X h1 h2 h3 hP hD hS hl)⟩
  by_cases q : y' < x'
  · exact (kt q).1
  · exact (kf q).1
theorem pr_icmp_le {x y x' y' : Int} {off : Int} {tgt : Nat} (hd : decode md.2.1 pc = .ok (.if_icmp .le off, 3)) (hx : wr x = x') (hy : wr y = y') (ht : (pc : Int) + off = (tgt : Int)) (kt : x' ≤ y' → pm_J md d lo lay0 r lay' σ' tgt L S lay σ) (kf : ¬ x' ≤ y' → pm_J md d lo lay0 r lay' σ' (pc + 3) L S lay σ) : pm_J md d lo lay0 r lay' σ' pc L (pv_i y :: pv_i x :: S) lay σ := by
  refine ⟨?_, fun p l e s m args below meth c k A ad0 ad H locs ls X h1 h2 h3 hP hD hS hl => lv_icmp_le X.1 X.2.1 hd ht (fun q => (kt (hx ▸ hy ▸ (pm_le x y).mp q)).2 p l e s m args below meth c k A ad0 ad H locs ls X h1 h2 h3 hP hD hS hl) (fun q => (kf (fun z => q ((pm_le x y).mpr (hx.symm ▸ hy.symm ▸ z)))).2 p l e s m args below meth c k A ad0 ad H locs ls X h1 h2 h3 hP hD hS hl)⟩
  by_cases q : x' ≤ y'
  · exact (kt q).1
  · exact (kf q).1
theorem pr_icmp_ne {x y x' y' : Int} {off : Int} {tgt : Nat} (hd : decode md.2.1 pc = .ok (.if_icmp .ne off, 3)) (hx : wr x = x') (hy : wr y = y') (ht : (pc : Int) + off = (tgt : Int)) (kt : ¬ x' = y' → pm_J md d lo lay0 r lay' σ' tgt L S lay σ) (kf : x' = y' → pm_J md d lo lay0 r lay' σ' (pc + 3) L S lay σ) : pm_J md d lo lay0 r lay' σ' pc L (pv_i y :: pv_i x :: S) lay σ := by
  refine ⟨?_, fun p l e s m args below meth c k A ad0 ad H locs ls X h1 h2 h3 hP hD hS hl => lv_icmp_ne X.1 X.2.1 hd ht (fun q => (kt (fun z => q ((pm_eq x y).mpr (hx.symm ▸ hy.symm ▸ z)))).2 p l e s m args below meth c k A ad0 ad H locs ls X h1 h2 h3 hP hD hS hl) (fun q => (kf (hx ▸ hy ▸ (pm_eq x y).mp q)).2 p l e s m args below meth c k A ad0 ad H locs ls X h1 h2 h3 hP hD hS hl)⟩
  by_cases q : x' = y'
  · exact (kf q).1
  · exact (kt q).1
end PR
end
section
/-! ===== rows over the heap ===== -/
theorem pm_W_lay {k : pm_K} {ad : Nat → Nat} {lay : List pm_S} {σ : pm_M} {c : Nat} {S' : pm_S} : pm_W k ad (lay.set c S') σ = (pm_W k ad lay σ).set c (ad c, pm_cell k ad (σ c) S') := by
  apply List.ext_getElem?
  intro i
  unfold pm_W
  rw [List.getElem?_mapIdx]
  by_cases hi : i = c
  · subst hi
    by_cases hl : i < lay.length
    · rw [List.getElem?_set_self hl, List.getElem?_set_self (by rw [List.length_mapIdx]; exact hl)]
      rfl
    · rw [List.getElem?_eq_none (by rw [List.length_set]; omega), List.getElem?_eq_none (by rw [List.length_set, List.length_mapIdx]; omega)]
      rfl
  · rw [List.getElem?_set_ne (Ne.symm hi), List.getElem?_set_ne (Ne.symm hi), List.getElem?_mapIdx]
theorem pm_flds_up {ad : Nat → Nat} {m : Nat → Int} {fs : List pm_F} {j : Nat} {x : Int} (hf : fs[j]? = some none) : (fs.mapIdx (fun i f => pm_fld ad m i f)).set j (.int (Int32.ofInt x)) = fs.mapIdx (fun i f => pm_fld ad (fun i => if i = j then x else m i) i f) := by
  apply List.ext_getElem?
  intro i
  by_cases hi : i = j
  · subst hi
    have hl : i < fs.length := (List.getElem?_eq_some_iff.mp hf).1
    rw [List.getElem?_set_self (by rw [List.length_mapIdx]; exact hl), List.getElem?_mapIdx, hf]
    simp [pm_fld]
  · rw [List.getElem?_set_ne (Ne.symm hi), List.getElem?_mapIdx, List.getElem?_mapIdx]
    cases fs[i]? with
    | none => rfl
    | some f =>
      rcases f with _ | _ | r <;> simp [pm_fld, hi]
theorem pm_flds_set {ad : Nat → Nat} {m : Nat → Int} {fs : List pm_F} {j r : Nat} : (fs.mapIdx (fun i f => pm_fld ad m i f)).set j (.ref (ad r)) = (fs.set j (some (some r))).mapIdx (fun i f => pm_fld ad m i f) := by
  apply List.ext_getElem?
  intro i
  by_cases hi : i = j
  · subst hi
    by_cases hl : i < fs.length
    · rw [List.getElem?_set_self (by rw [List.length_mapIdx]; exact hl), List.getElem?_mapIdx, List.getElem?_set_self hl]
      rfl
    · rw [List.getElem?_eq_none (by rw [List.length_set, List.length_mapIdx]; omega), List.getElem?_eq_none (by rw [List.length_mapIdx, List.length_set]; omega)]
  · rw [List.getElem?_set_ne (Ne.symm hi), List.getElem?_mapIdx, List.getElem?_mapIdx, List.getElem?_set_ne (Ne.symm hi)]
theorem pm_up_at (σ : pm_M) (c j : Nat) (v : Int) : pm_up σ c j v c = fun i => if i = j then v else σ c i := by
  funext i
  unfold pm_up
  simp
/-- what is known of a class of ours -/
def pm_Cok (q : vw_C) : Prop := (∀ w ∈ u_ws q.1 q.2.1 q.2.2, w ∈ pm_G) ∧ (∀ a, a < q.2.2 → ∀ b, b < q.2.2 → a ≠ b → (q.2.1 a).2.1 ≠ (q.2.1 b).2.1) ∧ ∃ ty : Nat → FieldType, ∀ k, k < q.2.2 → parseFieldDescriptor (q.2.1 k).2.2.1 = some (ty k)
/-- a field by its entry of the pool: the class's number, the place -/
def pm_L (own : String) (idx ci j : Nat) : Prop := ∃ q : vw_C, vwCl[ci]? = some q ∧ pm_Cok q ∧ j < q.2.2 ∧ Cond.fieldLink own idx (q.2.1 j).1 (q.2.1 j).2.1 (q.2.1 j).2.2.1 ∈ pm_G
/-- a field that is written: final, its type -/
def pm_LP (own : String) (idx ci j : Nat) (fin : Bool) (ty : FieldType) : Prop := ∃ q : vw_C, vwCl[ci]? = some q ∧ pm_Cok q ∧ j < q.2.2 ∧ Cond.fieldLink own idx (q.2.1 j).1 (q.2.1 j).2.1 (q.2.1 j).2.2.1 ∈ pm_G ∧ (q.2.1 j).2.2.2 = fin ∧ parseFieldDescriptor (q.2.1 j).2.2.1 = some ty ∧ (fin = true → (q.2.1 j).1 = own)
section PH
variable {md : pm_D} {d lo : Nat} {lay0 lay lay' : List pm_S} {r : Option pm_V} {σ σ' : pm_M} {pc : Nat} {L : List (Option pm_V)} {S : List pm_V}
theorem pr_getI {t idx ci j : Nat} {fs : List pm_F} (hd : decode md.2.1 pc = .ok (.getfield idx, 3)) (hw : pm_L md.1.cls idx ci j) (hy : lay[t]? = some (ps_o ci fs)) (hf : fs[j]? = some none) (kk : pm_J md d lo lay0 r lay' σ' (pc + 3) L (pv_i (σ t j) :: S) lay σ) : pm_J md d lo lay0 r lay' σ' pc L (pv_r t :: S) lay σ := by
  refine ⟨kk.1, fun p l e s m args below meth c k A ad0 ad H locs ls X h1 h2 h3 hP hD hS hl => ?_⟩
  obtain ⟨q, hc, hok, hj, hlk⟩ := hw
  exact va_get (D := k.1) (ci := ci) (v := .int (Int32.ofInt (σ t j))) (C := q.1) (T := q.2.1) (N := q.2.2) X.1 X.2.1 X.2.2.2.2.2.1 (fun w h => pm_wds_in (hok.1 w h)) X.2.2.2.2.1 X.2.2.2.2.2.2.2.2.2.2 hP t (pm_W_at hy) hc j hj (X.2.2.2.2.2.1 _ (pm_wds_in hlk)) (fun _ h => h) (by rw [List.getElem?_mapIdx, hf]; rfl) hd (kk.2 p l e s m args below meth c k A ad0 ad H locs ls X h1 h2 h3 hP hD hS hl)
theorem pr_getR {t idx ci j o : Nat} {fs : List pm_F} (hd : decode md.2.1 pc = .ok (.getfield idx, 3)) (hw : pm_L md.1.cls idx ci j) (hy : lay[t]? = some (ps_o ci fs)) (hf : fs[j]? = some (some (some o))) (kk : pm_J md d lo lay0 r lay' σ' (pc + 3) L (pv_r o :: S) lay σ) : pm_J md d lo lay0 r lay' σ' pc L (pv_r t :: S) lay σ := by
  refine ⟨kk.1, fun p l e s m args below meth c k A ad0 ad H locs ls X h1 h2 h3 hP hD hS hl => ?_⟩
  obtain ⟨q, hc, hok, hj, hlk⟩ := hw
  exact va_get (D := k.1) (ci := ci) (v := .ref (ad o)) (C := q.1) (T := q.2.1) (N := q.2.2) X.1 X.2.1 X.2.2.2.2.2.1 (fun w h => pm_wds_in (hok.1 w h)) X.2.2.2.2.1 X.2.2.2.2.2.2.2.2.2.2 hP t (pm_W_at hy) hc j hj (X.2.2.2.2.2.1 _ (pm_wds_in hlk)) (fun _ h => h) (by rw [List.getElem?_mapIdx, hf]; rfl) hd (kk.2 p l e s m args below meth c k A ad0 ad H locs ls X h1 h2 h3 hP hD hS hl)
theorem pr_putT {t idx ci j : Nat} {x : Int} {fs : List pm_F} {ty : FieldType} (hd : decode md.2.1 pc = .ok (.putfield idx, 3)) (hw : pm_LP md.1.cls idx ci j false ty) (hy : lay[t]? = some (ps_o ci fs)) (hf : fs[j]? = some none) (hn : narrow ty (.int (Int32.ofInt x)) = .int (Int32.ofInt x)) (hfit : fits ty (.int (Int32.ofInt x)) = true) (kk : pm_J md d lo lay0 r lay' σ' (pc + 3) L S lay (pm_up σ t j x)) : pm_J md d lo lay0 r lay' σ' pc L (pv_i x :: pv_r t :: S) lay σ := by
  refine ⟨kk.1, fun p l e s m args below meth c k A ad0 ad H locs ls X h1 h2 h3 hP hD hS hl => ?_⟩
  obtain ⟨q, hc, ⟨hin, hnm, ty0, hty⟩, hj, hlk, hfin, hpd, -⟩ := hw
  have hlen : j < (fs.mapIdx (fun i f => pm_fld ad (σ t) i f)).length := by
    rw [List.length_mapIdx]
    exact (List.getElem?_eq_some_iff.mp hf).1
  refine va_put (D := k.1) (ci := ci) (v := .int (Int32.ofInt x)) (ty := ty) (C := q.1) (T := q.2.1) (N := q.2.2) X.1 X.2.1 X.2.2.2.2.2.1 (fun w h => pm_wds_in (hin w h)) ty0 hty hnm X.2.2.2.2.1 X.2.2.2.2.2.2.2.2.2.2 hP hD hS t (pm_W_at hy) hc j hj (X.2.2.2.2.2.1 _ (pm_wds_in hlk)) (fun _ h => h) hfin hpd hn hfit hlen hd (fun H1 locs1 hP1 hD1 hS1 => ?_)
  have e9 : pm_W k ad lay (pm_up σ t j x) = (pm_W k ad lay σ).set t (ad t, .inr (ci, (fs.mapIdx (fun i f => pm_fld ad (σ t) i f)).set j (.int (Int32.ofInt x)))) := by
    rw [pm_W_up hy, pm_flds_up hf, pm_up_at]
    rfl
  rw [← e9] at hP1 hD1
  exact kk.2 p l e s m args below meth c k A ad0 ad H1 locs1 ls X h1 h2 h3 hP1 hD1 hS1 hl
theorem pr_putI {t idx ci j : Nat} {x : Int} {fs : List pm_F} (hd : decode md.2.1 pc = .ok (.putfield idx, 3)) (hw : pm_LP md.1.cls idx ci j false .int) (hy : lay[t]? = some (ps_o ci fs)) (hf : fs[j]? = some none) (kk : pm_J md d lo lay0 r lay' σ' (pc + 3) L S lay (pm_up σ t j x)) : pm_J md d lo lay0 r lay' σ' pc L (pv_i x :: pv_r t :: S) lay σ := pr_putT hd hw hy hf rfl rfl kk
theorem pr_putZ {t idx ci j : Nat} {x : Int} {fs : List pm_F} (hd : decode md.2.1 pc = .ok (.putfield idx, 3)) (hw : pm_LP md.1.cls idx ci j false .boolean) (hy : lay[t]? = some (ps_o ci fs)) (hf : fs[j]? = some none) (hz : x = 0 ∨ x = 1) (kk : pm_J md d lo lay0 r lay' σ' (pc + 3) L S lay (pm_up σ t j x)) : pm_J md d lo lay0 r lay' σ' pc L (pv_i x :: pv_r t :: S) lay σ := by
  rcases hz with rfl | rfl
  · exact pr_putT hd hw hy hf (by decide) (by decide) kk
  · exact pr_putT hd hw hy hf (by decide) (by decide) kk
theorem pr_putR {t idx ci j o : Nat} {fs : List pm_F} {ty : FieldType} (hd : decode md.2.1 pc = .ok (.putfield idx, 3)) (hw : pm_LP md.1.cls idx ci j true ty) (hini : md.1.name = "<init>") (hr : (∃ n, ty = .object n) ∨ ∃ n, ty = .array n) (hy : lay[t]? = some (ps_o ci fs)) (hj : j < fs.length) (kk : pm_J md d lo lay0 r lay' σ' (pc + 3) L S (lay.set t (ps_o ci (fs.set j (some (some o))))) σ) : pm_J md d lo lay0 r lay' σ' pc L (pv_r o :: pv_r t :: S) lay σ := by
  have hs : pm_sl (lay.set t (ps_o ci (fs.set j (some (some o))))) = pm_sl lay := by
    unfold pm_sl
    congr 1
    apply List.ext_getElem?
    intro i
    rw [List.getElem?_map, List.getElem?_map]
    by_cases hi : i = t
    · subst hi
      rw [List.getElem?_set_self (List.getElem?_eq_some_iff.mp hy).1, hy]
      simp [pm_sz]
    · rw [List.getElem?_set_ne (Ne.symm hi)]
  have hlen : (lay.set t (ps_o ci (fs.set j (some (some o))))).length = lay.length := List.length_set
  have hm := kk.1
  rw [hs, hlen] at hm
  refine ⟨hm, fun p l e s m args below meth c k A ad0 ad H locs ls X h1 h2 h3 hP hD hS hl => ?_⟩
  obtain ⟨q, hc, ⟨hin, hnm, ty0, hty⟩, hjq, hlk, hfin, hpd, hown⟩ := hw
  have hlen2 : j < (fs.mapIdx (fun i f => pm_fld ad (σ t) i f)).length := by
    rw [List.length_mapIdx]
    exact hj
  have hn : narrow ty (.ref (ad o)) = .ref (ad o) := by
    rcases hr with ⟨n, rfl⟩ | ⟨n, rfl⟩ <;> rfl
  have hfit : fits ty (.ref (ad o)) = true := by
    rcases hr with ⟨n, rfl⟩ | ⟨n, rfl⟩ <;> rfl
  refine va_putF (D := k.1) (ci := ci) (v := .ref (ad o)) (ty := ty) (C := q.1) (T := q.2.1) (N := q.2.2) X.1 X.2.1 X.2.2.2.2.2.1 (fun w h => pm_wds_in (hin w h)) ty0 hty hnm X.2.2.2.2.1 X.2.2.2.2.2.2.2.2.2.2 hP hD hS t (pm_W_at hy) hc j hjq (X.2.2.2.2.2.1 _ (pm_wds_in hlk)) (fun _ h => h) hfin (X.2.2.2.2.2.2.2.1.trans hini) (hown rfl) hpd hn hfit hlen2 hd (fun H1 locs1 hP1 hD1 hS1 => ?_)
  have e9 : pm_W k ad (lay.set t (ps_o ci (fs.set j (some (some o))))) σ = (pm_W k ad lay σ).set t (ad t, .inr (ci, (fs.mapIdx (fun i f => pm_fld ad (σ t) i f)).set j (.ref (ad o)))) := by
    rw [pm_W_lay, pm_flds_set]
    rfl
  rw [← e9] at hP1 hD1
  have kx := kk.2 p l e s m args below meth c k A ad0 ad H1 locs1 ls X (by rw [hlen]; exact h1) (by rw [hlen]; exact h2) (by rw [hs]; exact h3) hP1 hD1 hS1 hl
  rw [hlen, hs] at kx
  exact kx
theorem pr_iald {a n : Nat} {i i' : Int} (hd : decode md.2.1 pc = .ok (.iaload, 1)) (hy : lay[a]? = some (ps_a n)) (hx : wr i = i') (hi : 0 ≤ i' ∧ i' < n) (kk : pm_J md d lo lay0 r lay' σ' (pc + 1) L (pv_i (σ a i'.toNat) :: S) lay σ) : pm_J md d lo lay0 r lay' σ' pc L (pv_i i :: pv_r a :: S) lay σ := by
  subst hx
  refine ⟨kk.1, fun p l e s m args below meth c k A ad0 ad H locs ls X h1 h2 h3 hP hD hS hl => ?_⟩
  exact va_iald (D := k.1) X.1 X.2.1 X.2.2.2.2.2.2.2.2.2.2 hP a 0 (pm_W_at hy) rfl (pm_in hi.1 hi.2) hd (kk.2 p l e s m args below meth c k A ad0 ad H locs ls X h1 h2 h3 hP hD hS hl)
theorem pr_iast {a n : Nat} {i i' x : Int} (hd : decode md.2.1 pc = .ok (.iastore, 1)) (hy : lay[a]? = some (ps_a n)) (hx : wr i = i') (hi : 0 ≤ i' ∧ i' < n) (kk : pm_J md d lo lay0 r lay' σ' (pc + 1) L S lay (pm_up σ a i'.toNat x)) : pm_J md d lo lay0 r lay' σ' pc L (pv_i x :: pv_i i :: pv_r a :: S) lay σ := by
  subst hx
  refine ⟨kk.1, fun p l e s m args below meth c k A ad0 ad H locs ls X h1 h2 h3 hP hD hS hl => ?_⟩
  refine va_iast (D := k.1) X.1 X.2.1 X.2.2.2.2.2.2.2.2.2.2 hP hD hS a 0 (pm_W_at hy) rfl (pm_in hi.1 hi.2) hd (fun H1 locs1 hP1 hD1 hS1 => ?_)
  have e9 : pm_W k ad lay (pm_up σ a (wr i).toNat x) = (pm_W k ad lay σ).set a (ad a, .inl (k.2.1, n, .inl (upd (fun i => Int32.ofInt (σ a i)) (Int32.ofInt i).toNatClampNeg (Int32.ofInt x)))) := by
    rw [pm_W_up hy, pm_up_at]
    have e8 : (fun i_1 => Int32.ofInt (if i_1 = (wr i).toNat then x else σ a i_1)) = upd (fun i => Int32.ofInt (σ a i)) (Int32.ofInt i).toNatClampNeg (Int32.ofInt x) := by
      funext j
      unfold upd
      rw [pm_cl]
      split <;> rfl
    rw [← e8]
    rfl
  rw [← e9] at hP1 hD1
  exact kk.2 p l e s m args below meth c k A ad0 ad H1 locs1 ls X h1 h2 h3 hP1 hD1 hS1 hl
theorem pr_alen {a n : Nat} (hd : decode md.2.1 pc = .ok (.arraylength, 1)) (hy : lay[a]? = some (ps_a n)) (kk : pm_J md d lo lay0 r lay' σ' (pc + 1) L (pv_i n :: S) lay σ) : pm_J md d lo lay0 r lay' σ' pc L (pv_r a :: S) lay σ := by
  refine ⟨kk.1, fun p l e s m args below meth c k A ad0 ad H locs ls X h1 h2 h3 hP hD hS hl => ?_⟩
  exact va_alen (D := k.1) X.1 X.2.1 X.2.2.2.2.2.2.2.2.2.2 hP a 0 (pm_W_at hy) (ty := .int) rfl (v := Int32.ofInt n) rfl hd (kk.2 p l e s m args below meth c k A ad0 ad H locs ls X h1 h2 h3 hP hD hS hl)
theorem pr_aald {a o : Nat} {rs : List Nat} {i i' : Int} (hd : decode md.2.1 pc = .ok (.aaload, 1)) (hy : lay[a]? = some (ps_q rs)) (hx : wr i = i') (h0 : 0 ≤ i') (hi : rs[i'.toNat]? = some o) (kk : pm_J md d lo lay0 r lay' σ' (pc + 1) L (pv_r o :: S) lay σ) : pm_J md d lo lay0 r lay' σ' pc L (pv_i i :: pv_r a :: S) lay σ := by
  subst hx
  refine ⟨kk.1, fun p l e s m args below meth c k A ad0 ad H locs ls X h1 h2 h3 hP hD hS hl => ?_⟩
  have hlt : (wr i).toNat < rs.length := (List.getElem?_eq_some_iff.mp hi).1
  have hin : vp_in (Int32.ofInt i) rs.length := pm_in h0 (by omega)
  refine W.aald (v := .ref (ad o)) (ty := .array .int) X.1 X.2.1 (hP a _ (pm_W_at hy)) ((X.2.2.2.2.2.2.2.2.2.2.2 1 (k.2.2.1, .array .int) rfl).1 rs.length (fun j => va_rf ((rs[j]?).map ad))) rfl (fun q => by cases q) (by show ¬ (Int32.ofInt i < 0 ∨ (arrV _ _ _).slots.size ≤ _); rw [arrV_size]; exact hin) (by show (arrV _ _ _).slots[_]? = _; rw [arrV_read _ _ (show (Int32.ofInt i).toNatClampNeg < rs.length from hlt)]; show some (va_rf ((rs[(wr i).toNat]?).map ad)) = _; rw [hi]; rfl) rfl rfl hd (kk.2 p l e s m args below meth c k A ad0 ad H locs ls X h1 h2 h3 hP hD hS hl)
theorem pr_gets {idx j : Nat} {q : String × String × List Int} (hd : decode md.2.1 pc = .ok (.getstatic idx, 3)) (hq : pm_st[j]? = some q) (hw : Cond.fieldLink md.1.cls idx q.1 q.2.1 "[I" ∈ pm_G) (kk : pm_J md d lo lay0 r lay' σ' (pc + 3) L (pv_s j :: S) lay σ) : pm_J md d lo lay0 r lay' σ' pc L S lay σ := by
  refine ⟨kk.1, fun p l e s m args below meth c k A ad0 ad H locs ls X h1 h2 h3 hP hD hS hl => ?_⟩
  exact va_gets X.1 X.2.1 (X.2.2.2.2.2.2.2.2.2.1.1 j q hq).1 hS X.2.2.2.2.1 (X.2.2.2.2.2.1 _ (pm_wds_in hw)) (fun _ h => h) hd (kk.2 p l e s m args below meth c k A ad0 ad H locs ls X h1 h2 h3 hP hD hS hl)
theorem pr_getsN {idx j : Nat} {q : String × String × List Int} {host : String} (hd : decode md.2.1 pc = .ok (.getstatic idx, 3)) (hq : pm_st[j]? = some q) (hw : Cond.fieldLinkNest md.1.cls idx q.1 q.2.1 "[I" host ∈ pm_nw) (kk : pm_J md d lo lay0 r lay' σ' (pc + 3) L (pv_s j :: S) lay σ) : pm_J md d lo lay0 r lay' σ' pc L S lay σ := by
  refine ⟨kk.1, fun p l e s m args below meth c k A ad0 ad H locs ls X h1 h2 h3 hP hD hS hl => ?_⟩
  exact va_getsN X.1 X.2.1 (X.2.2.2.2.2.2.2.2.2.1.1 j q hq).1 hS X.2.2.2.2.1 (va_Nw.use rfl (X.2.2.2.2.2.2.2.2.2.1.2.1 _ hw)) (fun _ h => h) hd (kk.2 p l e s m args below meth c k A ad0 ad H locs ls X h1 h2 h3 hP hD hS hl)
theorem pr_sald {j : Nat} {q : String × String × List Int} {i i' : Int} (hd : decode md.2.1 pc = .ok (.iaload, 1)) (hq : pm_st[j]? = some q) (hx : wr i = i') (hi : 0 ≤ i' ∧ i' < q.2.2.length) (kk : pm_J md d lo lay0 r lay' σ' (pc + 1) L (pv_i (q.2.2.getD i'.toNat 0) :: S) lay σ) : pm_J md d lo lay0 r lay' σ' pc L (pv_i i :: pv_s j :: S) lay σ := by
  subst hx
  refine ⟨kk.1, fun p l e s m args below meth c k A ad0 ad H locs ls X h1 h2 h3 hP hD hS hl => ?_⟩
  exact va_ti X.1 X.2.1 (X.2.2.2.2.2.2.2.2.2.1.1 j q hq).2 hS (pm_in hi.1 hi.2) rfl hd (kk.2 p l e s m args below meth c k A ad0 ad H locs ls X h1 h2 h3 hP hD hS hl)
theorem pr_tsIn {dflt lw hi : Int} {offs : Array Int} {len : Nat} {x x' off : Int} {j tgt : Nat} (hd : decode md.2.1 pc = .ok (.tableswitch dflt lw hi offs, len)) (hx : wr x = x') (hj : x' = lw + j) (hh : lw + j ≤ hi) (ho : offs[j]? = some off) (ht : (pc : Int) + off = (tgt : Int)) (kk : pm_J md d lo lay0 r lay' σ' tgt L S lay σ) : pm_J md d lo lay0 r lay' σ' pc L (pv_i x :: S) lay σ := by
  subst hx
  refine ⟨kk.1, fun p l e s m args below meth c k A ad0 ad H locs ls X h1 h2 h3 hP hD hS hl => ?_⟩
  have e9 : (Int32.ofInt x).toInt = lw + j := hj
  exact lv_tableIn X.1 X.2.1 hd (by rw [e9]; omega) (by rw [e9]; omega) (by rw [e9, show (lw + (j : Int) - lw).toNat = j by omega]; exact ho) ht (kk.2 p l e s m args below meth c k A ad0 ad H locs ls X h1 h2 h3 hP hD hS hl)
theorem pr_tsOut {dflt lw hi : Int} {offs : Array Int} {len : Nat} {x x' : Int} {tgt : Nat} (hd : decode md.2.1 pc = .ok (.tableswitch dflt lw hi offs, len)) (hx : wr x = x') (hh : x' < lw ∨ hi < x') (ht : (pc : Int) + dflt = (tgt : Int)) (kk : pm_J md d lo lay0 r lay' σ' tgt L S lay σ) : pm_J md d lo lay0 r lay' σ' pc L (pv_i x :: S) lay σ := by
  subst hx
  refine ⟨kk.1, fun p l e s m args below meth c k A ad0 ad H locs ls X h1 h2 h3 hP hD hS hl => ?_⟩
  exact lv_tableOut X.1 X.2.1 hd hh ht (kk.2 p l e s m args below meth c k A ad0 ad H locs ls X h1 h2 h3 hP hD hS hl)
end PH
end
section
/-! ===== returns, entry, calls ===== -/
section PE
variable {md : pm_D} {d lo : Nat} {lay0 lay lay' : List pm_S} {r : Option pm_V} {σ σ' : pm_M} {pc : Nat} {L : List (Option pm_V)} {S : List pm_V}
theorem pr_iret {x : Int} (hd : decode md.2.1 pc = .ok (.ireturn, 1)) (hr : md.2.2.2 = some .int) : pm_J md d lo lay0 (some (pv_i x)) lay σ pc L [pv_i x] lay σ := by
  refine ⟨⟨Nat.le_refl _, Nat.le_refl _⟩, fun p l e s m args below meth c k A ad0 ad H locs ls X h1 h2 h3 hP hD hS hl => ?_⟩
  exact W.iret X.1 X.2.1 (X.2.2.1.trans hr) (fun t ht hW => ⟨⟨ad, h1, rfl, by rw [ht]; exact hP, va_K.moved hW.alike X.2.2.2.2.2.2.2.2.2.2, hD⟩, hS.F ht⟩) hS.2.2 hd X.2.2.2.2.2.2.1
theorem pr_zret {x : Int} (hd : decode md.2.1 pc = .ok (.ireturn, 1)) (hr : md.2.2.2 = some .boolean) (hz : x = 0 ∨ x = 1) : pm_J md d lo lay0 (some (pv_i x)) lay σ pc L [pv_i x] lay σ := by
  refine ⟨⟨Nat.le_refl _, Nat.le_refl _⟩, fun p l e s m args below meth c k A ad0 ad H locs ls X h1 h2 h3 hP hD hS hl => ?_⟩
  have hn : narrow .boolean (.int (Int32.ofInt x)) = .int (Int32.ofInt x) := by
    rcases hz with rfl | rfl <;> decide
  exact W.zret X.1 X.2.1 (X.2.2.1.trans hr) hn (fun t ht hW => ⟨⟨ad, h1, rfl, by rw [ht]; exact hP, va_K.moved hW.alike X.2.2.2.2.2.2.2.2.2.2, hD⟩, hS.F ht⟩) hS.2.2 hd X.2.2.2.2.2.2.1
theorem pr_vret (hd : decode md.2.1 pc = .ok (.return_, 1)) (hr : md.2.2.2 = none) : pm_J md d lo lay0 none lay σ pc L [] lay σ := by
  refine ⟨⟨Nat.le_refl _, Nat.le_refl _⟩, fun p l e s m args below meth c k A ad0 ad H locs ls X h1 h2 h3 hP hD hS hl => ?_⟩
  exact W.vret X.1 X.2.1 (X.2.2.1.trans hr) (fun t ht hW => ⟨⟨ad, h1, rfl, by rw [ht]; exact hP, va_K.moved hW.alike X.2.2.2.2.2.2.2.2.2.2, hD⟩, hS.F ht⟩) hS.2.2 hd X.2.2.2.2.2.2.1
end PE
theorem pm_args (vs : List Value) (h : ∀ v ∈ vs, v.category = 1) : ∀ (i j : Nat) (v : Value), vs[j]? = some v → (i + j, v) ∈ lv_args i vs := by
  induction vs with
  | nil => intro i j v hv; cases hv
  | cons w vs ih =>
    intro i j v hv
    have hc : w.category = 1 := h w List.mem_cons_self
    unfold lv_args
    cases j with
    | zero => cases hv; exact List.mem_cons_self
    | succ j =>
      refine List.mem_cons_of_mem _ ?_
      have h2 := ih (fun v hv => h v (List.mem_cons_of_mem _ hv)) (i + 1) j v hv
      rw [if_neg (by rw [hc]; decide)]
      rw [show i + (j + 1) = i + 1 + j by omega]
      exact h2
def pm_in0 (av : List pm_V) (n : Nat) : List (Option pm_V) := av.map some ++ List.replicate (n - av.length) none
theorem pm_sl1 (vs : List Value) (h : ∀ v ∈ vs, v.category = 1) : (lg_sl vs).length = vs.length := by
  induction vs with
  | nil => rfl
  | cons w vs ih =>
    have hc : w.category = 1 := h w List.mem_cons_self
    have h2 := ih (fun v hv => h v (List.mem_cons_of_mem _ hv))
    simp only [lg_sl, List.flatMap_cons, List.length_append, List.length_cons] at h2 ⊢
    rw [h2, if_neg (by rw [hc]; decide)]
    simp [Nat.add_comm]
theorem pm_C.of {md : pm_D} {d lo : Nat} {av : List pm_V} {lay lay' : List pm_S} {σ σ' : pm_M} {r : Option pm_V} (hpl : plainName md.1.cls = true) (hc : av.all (fun v => pm_ct v == 1) = true) (hn : av.length ≤ md.2.2.1)
    (h : pm_J md d lo lay r lay' σ' 0 (pm_in0 av md.2.2.1) [] lay σ) : pm_C md d lo av lay σ r lay' σ' := by
  refine ⟨h.1, fun l k ad sz => ?_⟩
  refine Met.ofW (cc := md.2.1) (maxL := md.2.2.1) (ret := md.2.2.2) hpl rfl ?_
  intro p e s m args below meth c s₁ B hml hv
  obtain ⟨rfl, hsz, hP, hK, hD0, hSf⟩ := hv
  have hts := atoms_spec (ws := pm_wds md) B.pre
  subst hsz
  have hcat : ∀ v ∈ av.map (pm_cv ad k.2.2.2), v.category = 1 := by
    intro v hv
    obtain ⟨u, hu, rfl⟩ := List.mem_map.mp hv
    rw [pm_ct_eq]
    simpa using List.all_eq_true.mp hc u hu
  have hl := lv_entry (av.map (pm_cv ad k.2.2.2)) (n := md.2.2.1) (by rw [pm_sl1 _ hcat, List.length_map]; exact hn)
  rw [lg_entry_eq]
  generalize (lg_sl (av.map (pm_cv ad k.2.2.2)) ++ List.replicate (md.2.2.1 - (lg_sl (av.map (pm_cv ad k.2.2.2))).length) Slot.unset).toArray = ls at hl ⊢
  have hl2 : lv_has ls md.2.2.1 (pm_lc ad k.2.2.2 (pm_in0 av md.2.2.1)) := by
    refine pm_lc_sub hl (fun q hq => ?_)
    obtain ⟨v, h1, h2⟩ := pm_lc_mem.mp hq
    unfold pm_in0 at h1
    by_cases hi : q.1 < av.length
    · rw [List.getElem?_append_left (by rw [List.length_map]; exact hi), List.getElem?_map] at h1
      have h3 := pm_args (av.map (pm_cv ad k.2.2.2)) hcat 0 q.1 q.2 (by
        rw [List.getElem?_map]
        cases ha : av[q.1]? with
        | none => rw [ha] at h1; cases h1
        | some u =>
          rw [ha] at h1
          have : u = v := Option.some.inj (Option.some.inj h1)
          subst this
          rw [h2]
          rfl)
      rw [Nat.zero_add] at h3
      exact h3
    · rw [List.getElem?_append_right (by rw [List.length_map]; omega)] at h1
      have := List.eq_of_mem_replicate (List.mem_of_getElem? h1)
      cases this
  have hX : pm_X md k (va_A (pm_W k ad lay σ) s.heap.size) p s m (av.map (pm_cv ad k.2.2.2)).toArray meth c := ⟨B.exec, B.bytes, B.returns, hml, findClass_of_methodNamed B.named, hts, B.notSynchronized, (name_of_methodNamed B.named B.method).1, fun q h => Or.inr h, hSf, hK⟩
  have hw := h.2 p l e s m (av.map (pm_cv ad k.2.2.2)).toArray below meth c k (va_A (pm_W k ad lay σ) s.heap.size) ad ad s.heap [] ls hX (fun _ _ => rfl) (Nat.le_refl _) (Nat.le_refl _) hP hD0.self va_S.rf hl2
  rw [Nat.sub_self, Nat.sub_self] at hw
  exact hw
theorem pm_Sf.vm {k : pm_K} {A : Nat → Prop} {U U' : State} {H : Heap} (h : pm_Sf k A U H) (e : U.vm = U'.vm) : pm_Sf k A U' H := by
  have hal : U.vm.Alike U'.vm := by rw [e]; exact Vm.Alike.refl _
  exact ⟨fun j q hq => ⟨(h.1 j q hq).1.moved hal, (h.1 j q hq).2.moved hal⟩, fun w hw => va_Nw.same (by have := (List.mem_filter.mp hw).2; revert this; cases w <;> first | (intro z; rfl) | (intro z; simp [pm_isN] at z)) e (h.2.1 w hw), pm_AO hal h.2.2⟩
theorem pm_blind {k : pm_K} {ad : Nat → Nat} {lay : List pm_S} {σ : pm_M} {sz : Nat} {av : List pm_V} : FrameBlind (pm_Pc k ad lay σ sz av) := by
  intro a U g mk q
  obtain ⟨q0, q1, qP, qK, qD, qS⟩ := q
  exact ⟨q0, q1, qP, va_K.moved (u := U) (U := U.calling g mk a) (Vm.Alike.refl U.vm) qK, qD, pm_Sf.vm (U' := U.calling g mk a) qS rfl⟩
/-! a call: the contract's end, and what stands behind it -/
theorem pm_call {p : Program} {l : Launch} {e : Env} {R : Room} {s : State} {m : MethodId} {args : Array Value} {below : List Frame} {meth : Method} {c : Code} {H : Heap} {locs : List Loc} {cells slots : Nat} {Q : State → Prop} {pc : Nat} {ls : Array Slot} {rest st0 : List Value} {a : Array Value} {A A1 free : Nat → Prop} {mc ms n0 : Nat} {k : pm_K} {ad : Nat → Nat} {r2 : Option pm_V} {lay2 : List pm_S} {σ2 : pm_M}
    (hr : va_Run p l e R s m args below meth c H locs cells slots mc ms (F0 m pc ls st0) rest (pm_Qc k ad n0 r2 lay2 σ2 A1 a) free) (hS : va_S A s.heap H locs) (hA : ∀ q, q < H.size → A1 q → A q) (hf : ∀ q, free q → A q)
    (kk : ∀ (ad' : Nat → Nat) (H1 : Heap) (locs1 : List Loc), (∀ c, (c < n0 ∨ lay2.length ≤ c) → ad' c = ad c) → va_P k.1 vwCl (pm_W k ad' lay2 σ2) H1 → va_D A1 (pm_W k ad' lay2 σ2) → va_S A s.heap H1 locs1 → W p l e R s m args below meth c H1 locs1 (cells + mc) (slots + ms) Q (F0 m (pc + 3) ls ((r2.map (pm_cv ad' k.2.2.2)).toList ++ rest))) : W p l e R s m args below meth c H locs cells slots Q (F0 m pc ls st0) := by
  intro T hT X
  obtain ⟨v, st₀, t, T', L, h0, X', hL, e1, e2, ⟨⟨ad', had, hv, hP1, hK1, hD1⟩, hz, hk⟩, st⟩ := hr T hT X
  cases hv
  rw [h0] at hz hk
  obtain ⟨t2, a1, b1⟩ := kk ad' T'.heap (locs ++ L) had (by rw [e1]; exact hP1) hD1
    ⟨Nat.le_trans hS.1 (by rw [e1]; exact hz), fun q h1 h2 => by rw [e1, hk q (Nat.lt_of_lt_of_le h1 hS.1) (fun z => h2 (hA q (Nat.lt_of_lt_of_le h1 hS.1) z))]; exact hS.2.1 q h1 h2, fun q hq => by
      rcases List.mem_append.mp hq with h | h
      · exact hS.2.2 q h
      · exact hf _ (hL q h)⟩ T' rfl X'
  exact ⟨t2, st t2 a1, b1⟩
/-- a method by its entry of the pool -/
def pm_MB (md2 : pm_D) (n : Nat) : Prop := Cond.initialized md2.1.cls ∈ pm_G ∧ Cond.code md2.1 md2.2.1 md2.2.2.1 md2.2.2.2 ∈ pm_G ∧ (md2.1.cls ≠ "java/lang/invoke/MethodHandle" ∧ md2.1.cls ≠ "java/lang/invoke/VarHandle" ∧ (parseMethodDescriptor md2.1.desc).map (fun d => d.parameters.length) = some n)
def pm_MV (own : String) (idx : Nat) (md2 : pm_D) (n : Nat) : Prop := pm_MB md2 n ∧ Cond.methodLink own idx md2.1 ∈ pm_G ∧ Cond.instanceMethod md2.1 ∈ pm_G ∧ Cond.selects md2.1.cls md2.1 md2.1 ∈ pm_G
def pm_MS (own : String) (idx : Nat) (md2 : pm_D) (n : Nat) : Prop := pm_MB md2 n ∧ Cond.methodLink own idx md2.1 ∈ pm_G ∧ Cond.static md2.1 ∈ pm_G
def pm_MSN (own : String) (idx : Nat) (md2 : pm_D) (n : Nat) : Prop := pm_MB md2 n ∧ (∃ host, Cond.methodLinkNest own idx md2.1 host ∈ pm_nw) ∧ Cond.static md2.1 ∈ pm_G
def pm_MI (own : String) (idx : Nat) (md2 : pm_D) (n : Nat) : Prop := pm_MB md2 n ∧ Cond.methodLink own idx md2.1 ∈ pm_G ∧ Cond.instanceMethod md2.1 ∈ pm_G ∧ md2.1.name = "<init>" ∧ md2.2.2.2 = none
def pm_MIN (own : String) (idx : Nat) (md2 : pm_D) (n : Nat) : Prop := pm_MB md2 n ∧ (∃ host, Cond.methodLinkNest own idx md2.1 host ∈ pm_nw) ∧ Cond.instanceMethod md2.1 ∈ pm_G ∧ md2.1.name = "<init>" ∧ md2.2.2.2 = none
theorem pm_cats (ad sd : Nat → Nat) (S : List pm_V) : ((S.map (pm_cv ad sd)).map fun v => v.category).sum = (S.map pm_ct).sum := by
  rw [List.map_map]
  congr 1
  apply List.map_congr_left
  intro v _
  exact pm_ct_eq ad sd v
/-- references below n -/
def pm_bel (n : Nat) (v : pm_V) : Bool := match v with
  | .inr (.inr (.inl (some c))) => decide (c < n)
  | _ => true
theorem pm_bel_eq {n : Nat} {ad ad' sd : Nat → Nat} (h : ∀ c, c < n → ad' c = ad c) {v : pm_V} (hv : pm_bel n v = true) : pm_cv ad' sd v = pm_cv ad sd v := by
  rcases v with x | x | (_ | c) | j
  · rfl
  · rfl
  · rfl
  · show Value.ref (ad' c) = Value.ref (ad c)
    rw [h c (by simpa [pm_bel] using hv)]
  · rfl
/-- locals and stack look at old cells alone -/
def pm_wf (n : Nat) (L : List (Option pm_V)) (S : List pm_V) : Bool := S.all (pm_bel n) && L.all (fun o => match o with | some v => pm_bel n v | none => true)
theorem pm_wf_S {n : Nat} {L : List (Option pm_V)} {S : List pm_V} (hw : pm_wf n L S = true) {ad ad' sd : Nat → Nat} (h : ∀ c, c < n → ad' c = ad c) : S.map (pm_cv ad' sd) = S.map (pm_cv ad sd) := by
  apply List.map_congr_left
  intro v hv
  have h1 := (Bool.and_eq_true_iff.mp hw).1
  exact pm_bel_eq h (List.all_eq_true.mp h1 v hv)
theorem pm_wf_L {n : Nat} {L : List (Option pm_V)} {S : List pm_V} (hw : pm_wf n L S = true) {ad ad' sd : Nat → Nat} (h : ∀ c, c < n → ad' c = ad c) {ls : Array Slot} {nL : Nat} (hl : lv_has ls nL (pm_lc ad sd L)) : lv_has ls nL (pm_lc ad' sd L) := by
  refine pm_lc_sub hl (fun q hq => ?_)
  obtain ⟨v, h1, h2⟩ := pm_lc_mem.mp hq
  refine pm_lc_mem.mpr ⟨v, h1, ?_⟩
  have h3 := List.all_eq_true.mp (Bool.and_eq_true_iff.mp hw).2 (some v) (List.mem_of_getElem? h1)
  rw [h2]
  exact pm_bel_eq h h3
section PCL
variable {md md2 : pm_D} {d lo d2 lo2 n : Nat} {lay0 lay lay' lay2 : List pm_S} {r r2 : Option pm_V} {σ σ' σ2 : pm_M} {pc idx : Nat} {L : List (Option pm_V)} {S S0 As av : List pm_V}
/-- behind a call -/
theorem pm_after (hC : pm_C md2 d2 lo2 av lay σ r2 lay2 σ2) (hwf : lay2.length = lay.length ∨ pm_wf lay.length L S = true) (kk : pm_J md d lo lay0 r lay' σ' (pc + 3) L (r2.toList ++ S) lay2 σ2)
    {p : Program} {l : Launch} {e : Env} {s : State} {m : MethodId} {args : Array Value} {below : List Frame} {meth : Method} {c : Code} {k : pm_K} {A : Nat → Prop} {ad0 ad : Nat → Nat} {H : Heap} {locs : List Loc} {ls : Array Slot} {st0 : List Value} {a : Array Value}
    (X : pm_X md k A p s m args meth c) (h1 : ∀ c, (c < lay0.length ∨ lay.length ≤ c) → ad c = ad0 c) (h2 : lay0.length ≤ lay.length) (h3 : pm_sl lay0 ≤ pm_sl lay) (hD : va_D A (pm_W k ad lay σ)) (hS : va_S A s.heap H locs) (hl : lv_has ls md.2.2.1 (pm_lc ad k.2.2.2 L))
    (hr : va_Run p l e (pm_rm d lo lay0 lay') s m args below meth c H locs (lay.length - lay0.length) (pm_sl lay - pm_sl lay0) (lay2.length - lay.length) (pm_sl lay2 - pm_sl lay) (F0 m pc ls st0) (S.map (pm_cv ad k.2.2.2)) (pm_Qc k ad lay.length r2 lay2 σ2 (va_A (pm_W k ad lay σ) H.size) a) (va_A (pm_W k ad lay σ) H.size)) :
    W p l e (pm_rm d lo lay0 lay') s m args below meth c H locs (lay.length - lay0.length) (pm_sl lay - pm_sl lay0) (MQ below (pm_Qc k ad0 lay0.length r lay' σ' A) args s (lay'.length - lay0.length) (pm_sl lay' - pm_sl lay0) A) (F0 m pc ls st0) := by
  have hA1 : ∀ q, va_A (pm_W k ad lay σ) H.size q → A q := by
    intro q hq
    rcases hq with ⟨i, w, hi⟩ | hq
    · exact hD.2 i _ hi
    · exact X.2.2.2.2.2.2.2.2.1 q (Nat.le_trans hS.1 hq)
  refine pm_call hr hS (fun q _ h => hA1 q h) hA1 (fun ad' H1 locs1 had hP1 hD1 hS1 => ?_)
  have hm := hC.1
  have ec : lay.length - lay0.length + (lay2.length - lay.length) = lay2.length - lay0.length := by omega
  have es : pm_sl lay - pm_sl lay0 + (pm_sl lay2 - pm_sl lay) = pm_sl lay2 - pm_sl lay0 := by omega
  refine W.cs ec es ?_
  have hlt : ∀ c, c < lay.length → ad' c = ad c := fun c h => had c (Or.inl h)
  have hST : (r2.map (pm_cv ad' k.2.2.2)).toList ++ S.map (pm_cv ad k.2.2.2) = (r2.toList ++ S).map (pm_cv ad' k.2.2.2) ∧ lv_has ls md.2.2.1 (pm_lc ad' k.2.2.2 L) := by
    rcases hwf with hq | hq
    · have ea : ad' = ad := funext fun c => had c (by rw [hq]; exact Nat.lt_or_ge c lay.length)
      rw [ea]
      refine ⟨?_, hl⟩
      rw [List.map_append]
      cases r2 <;> rfl
    · refine ⟨?_, pm_wf_L hq hlt hl⟩
      rw [List.map_append, pm_wf_S hq hlt]
      cases r2 <;> rfl
  rw [hST.1]
  exact kk.2 p l e s m args below meth c k A ad0 ad' H1 locs1 ls X (fun c hc => by
    rcases hc with hc | hc
    · rw [hlt c (Nat.lt_of_lt_of_le hc h2)]
      exact h1 c (Or.inl hc)
    · rw [had c (Or.inr hc)]
      exact h1 c (Or.inr (Nat.le_trans hm.1 hc))) (Nat.le_trans h2 hm.1) (Nat.le_trans h3 hm.2) hP1 (hD1.weaken (fun _ _ _ h => hA1 _ h)) hS1 hST.2
theorem pm_pre {p : Program} {s : State} {m : MethodId} {args : Array Value} {meth : Method} {c : Code} {k : pm_K} {A : Nat → Prop} {ad : Nat → Nat} {H : Heap} {locs : List Loc}
    (X : pm_X md k A p s m args meth c) (hP : va_P k.1 vwCl (pm_W k ad lay σ) H) (hD : va_D A (pm_W k ad lay σ)) (hS : va_S A s.heap H locs) : ∀ U : State, U.heap = H → s.WarmedH U.vm → pm_Pc k ad lay σ H.size av (av.map (pm_cv ad k.2.2.2)).toArray U := by
  intro U hU hW
  refine ⟨rfl, by rw [hU], by rw [hU]; exact hP, va_K.moved hW.alike X.2.2.2.2.2.2.2.2.2.2, hD.weaken (fun _ _ _ _ => trivial), ?_⟩
  refine pm_Sf.to X.2.2.2.2.2.2.2.2.2.1 hS (fun q hlt hq => ?_) hW hU
  rcases hq with ⟨i, w, hi⟩ | hq
  · exact hD.2 i _ hi
  · omega
theorem pm_room (hC : pm_C md2 d2 lo2 av lay σ r2 lay2 σ2) (kk : lay2.length ≤ lay'.length ∧ pm_sl lay2 ≤ pm_sl lay') (h2 : lay0.length ≤ lay.length) (h3 : pm_sl lay0 ≤ pm_sl lay) : lay.length - lay0.length + (lay2.length - lay.length) ≤ (pm_rm d lo lay0 lay').cells ∧ pm_sl lay - pm_sl lay0 + (pm_sl lay2 - pm_sl lay) ≤ (pm_rm d lo lay0 lay').slots := by
  have hm := hC.1
  show _ ≤ lay'.length - lay0.length ∧ _ ≤ pm_sl lay' - pm_sl lay0
  omega
theorem pr_callV {t ci : Nat} {q : vw_C} {fs : List pm_F} (hd : decode md.2.1 pc = .ok (.invokevirtual idx, 3)) (hw : pm_MV md.1.cls idx md2 n) (hy : lay[t]? = some (ps_o ci fs)) (hc : vwCl[ci]? = some q) (hq : q.1 = md2.1.cls) (hn : As.length = n) (hst : S0 = As.reverse ++ pv_r t :: S) (h8 : (S.map pm_ct).sum ≤ 8) (hf : d2 + 1 ≤ d) (hlo : 8 + (md2.2.2.1 + 11) + lo2 ≤ lo) (hwf : lay2.length = lay.length ∨ pm_wf lay.length L S = true)
    (hC : pm_C md2 d2 lo2 (pv_r t :: As) lay σ r2 lay2 σ2) (kk : pm_J md d lo lay0 r lay' σ' (pc + 3) L (r2.toList ++ S) lay2 σ2) : pm_J md d lo lay0 r lay' σ' pc L S0 lay σ := by
  have hm := hC.1
  refine ⟨⟨Nat.le_trans hm.1 kk.1.1, Nat.le_trans hm.2 kk.1.2⟩, fun p l e s m args below meth c k A ad0 ad H locs ls X h1 h2 h3 hP hD hS hl => ?_⟩
  refine pm_after hC hwf kk X h1 h2 h3 hD hS hl (a := (Value.ref (ad t) :: As.map (pm_cv ad k.2.2.2)).toArray) ?_
  obtain ⟨⟨w1, w2, w3⟩, w4, w5, w6⟩ := hw
  have hG : GoodIn (pm_wds md) (wsV md.1.cls idx md2.1.cls md2.1 (pm_wds md2)) := by
    intro w h
    have hg : w ∈ pm_G := by
      simp only [wsV, pm_wds, List.mem_append, List.mem_cons, List.not_mem_nil, or_false] at h
      rcases h with (rfl | rfl | rfl | rfl) | rfl | h <;> assumption
    exact ⟨pm_wds_in hg, good_of_word (List.mem_filter.mp hg).2⟩
  exact va_runV (As := As.map (pm_cv ad k.2.2.2)) (rest := S.map (pm_cv ad k.2.2.2)) (nL := md.2.2.1) ⟨X.1, X.2.1, X.2.2.2.1, X.2.2.2.2.1, X.2.2.2.2.2.1⟩ (hC.2 l k ad H.size) (cwV n X.2.2.2.2.2.1 hG rfl rfl rfl ⟨rfl, w3⟩ ⟨hf, hlo⟩)
    ⟨pm_blind, by rw [← hq]; exact va_recv X.2.2.2.2.2.2.2.2.2.2 hP hc (pm_W_at hy), pm_pre X hP hD hS⟩ rfl (by rw [List.length_map]; exact hn) hl.1 (by rw [hst]; show List.map _ _ = _; rw [List.map_append, List.map_reverse]; rfl) (lv_room (by rw [pm_cats]; exact h8)) hd (pm_room hC kk.1 h2 h3)
theorem pr_callS (hd : decode md.2.1 pc = .ok (.invokestatic idx, 3)) (hw : pm_MS md.1.cls idx md2 n) (hn : av.length = n) (hst : S0 = av.reverse ++ S) (h8 : (S.map pm_ct).sum ≤ 8) (hf : d2 + 1 ≤ d) (hlo : 8 + (md2.2.2.1 + 11) + lo2 ≤ lo) (hwf : lay2.length = lay.length ∨ pm_wf lay.length L S = true)
    (hC : pm_C md2 d2 lo2 av lay σ r2 lay2 σ2) (kk : pm_J md d lo lay0 r lay' σ' (pc + 3) L (r2.toList ++ S) lay2 σ2) : pm_J md d lo lay0 r lay' σ' pc L S0 lay σ := by
  have hm := hC.1
  refine ⟨⟨Nat.le_trans hm.1 kk.1.1, Nat.le_trans hm.2 kk.1.2⟩, fun p l e s m args below meth c k A ad0 ad H locs ls X h1 h2 h3 hP hD hS hl => ?_⟩
  refine pm_after hC hwf kk X h1 h2 h3 hD hS hl (a := (av.map (pm_cv ad k.2.2.2)).toArray) ?_
  obtain ⟨⟨w1, w2, w3⟩, w4, w5⟩ := hw
  have hG : GoodIn (pm_wds md) (va_wsS md.1.cls idx md2.1 (pm_wds md2)) := by
    intro w h
    have hg : w ∈ pm_G := by
      simp only [va_wsS, pm_wds, List.mem_append, List.mem_cons, List.not_mem_nil, or_false] at h
      rcases h with (rfl | rfl | rfl) | rfl | h <;> assumption
    exact ⟨pm_wds_in hg, good_of_word (List.mem_filter.mp hg).2⟩
  exact va_runS (As := av.map (pm_cv ad k.2.2.2)) (rest := S.map (pm_cv ad k.2.2.2)) (nL := md.2.2.1) ⟨X.1, X.2.1, X.2.2.2.1, X.2.2.2.2.1, X.2.2.2.2.2.1⟩ (hC.2 l k ad H.size) (va_cwS n X.2.2.2.2.2.1 hG rfl rfl rfl w3 ⟨hf, hlo⟩)
    ⟨pm_blind, pm_pre X hP hD hS⟩ rfl (by rw [List.length_map]; exact hn) hl.1 (by rw [hst]; show List.map _ _ = _; rw [List.map_append, List.map_reverse]) (lv_room (by rw [pm_cats]; exact h8)) hd (pm_room hC kk.1 h2 h3)
theorem pr_callSN (hd : decode md.2.1 pc = .ok (.invokestatic idx, 3)) (hw : pm_MSN md.1.cls idx md2 n) (hn : av.length = n) (hst : S0 = av.reverse ++ S) (h8 : (S.map pm_ct).sum ≤ 8) (hf : d2 + 1 ≤ d) (hlo : 8 + (md2.2.2.1 + 11) + lo2 ≤ lo) (hwf : lay2.length = lay.length ∨ pm_wf lay.length L S = true)
    (hC : pm_C md2 d2 lo2 av lay σ r2 lay2 σ2) (kk : pm_J md d lo lay0 r lay' σ' (pc + 3) L (r2.toList ++ S) lay2 σ2) : pm_J md d lo lay0 r lay' σ' pc L S0 lay σ := by
  have hm := hC.1
  refine ⟨⟨Nat.le_trans hm.1 kk.1.1, Nat.le_trans hm.2 kk.1.2⟩, fun p l e s m args below meth c k A ad0 ad H locs ls X h1 h2 h3 hP hD hS hl => ?_⟩
  refine pm_after hC hwf kk X h1 h2 h3 hD hS hl (a := (av.map (pm_cv ad k.2.2.2)).toArray) ?_
  obtain ⟨⟨w1, w2, w3⟩, ⟨host, w4⟩, w5⟩ := hw
  exact va_runSN (As := av.map (pm_cv ad k.2.2.2)) (rest := S.map (pm_cv ad k.2.2.2)) (nL := md.2.2.1) ⟨X.1, X.2.1, X.2.2.2.1, X.2.2.2.2.1, X.2.2.2.2.2.1⟩ (hC.2 l k ad H.size) ⟨va_cnB n X.2.2.2.2.2.1 (pm_good w2) rfl rfl rfl (X.2.2.2.2.2.2.2.2.2.1.2.1 _ w4) (X.2.2.2.2.2.1 _ (pm_wds_in w1)) w3 ⟨hf, hlo⟩, X.2.2.2.2.2.1 _ (pm_wds_in w5), trivial⟩
    ⟨pm_blind, pm_pre X hP hD hS⟩ rfl (by rw [List.length_map]; exact hn) hl.1 (by rw [hst]; show List.map _ _ = _; rw [List.map_append, List.map_reverse]) (lv_room (by rw [pm_cats]; exact h8)) hd (pm_room hC kk.1 h2 h3)
end PCL
theorem i_vc : Claimed_1_1 ∧ Claimed_1_2 := sorry
end
