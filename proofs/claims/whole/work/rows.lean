section
-- ===== PART A: goes FIRST, ahead of the names: the tables' words, and 'selects' of the private methods out of them =====
/-- a private method of a class that the tables say can be made, by its rows of tables_1 -/
def lw_okq (q : MethodName × Nat) : Prop := (q.1.cls ≠ "java/lang/invoke/MethodHandle" ∧ q.1.cls ≠ "java/lang/invoke/VarHandle") ∧ Cond.instantiable q.1.cls q.2 ∈ tables_1 ∧ Cond.privateMethod q.1 ∈ tables_1 ∧ Cond.instanceMethod q.1 ∈ tables_1
theorem lw_p0 : lw_okq (⟨"PaperMill", "refuse", "(I)I"⟩, 11) := ⟨⟨by decide +kernel, by decide +kernel⟩, List.mem_of_getElem? (i := 19) (by decide +kernel), List.mem_of_getElem? (i := 421) (by decide +kernel), List.mem_of_getElem? (i := 422) (by decide +kernel)⟩
theorem lw_p1 : lw_okq (⟨"PaperMill", "isMould", "(I)Z"⟩, 11) := ⟨⟨by decide +kernel, by decide +kernel⟩, List.mem_of_getElem? (i := 19) (by decide +kernel), List.mem_of_getElem? (i := 498) (by decide +kernel), List.mem_of_getElem? (i := 499) (by decide +kernel)⟩
theorem lw_p2 : lw_okq (⟨"PaperMill", "sizePost", "(I)I"⟩, 11) := ⟨⟨by decide +kernel, by decide +kernel⟩, List.mem_of_getElem? (i := 19) (by decide +kernel), List.mem_of_getElem? (i := 546) (by decide +kernel), List.mem_of_getElem? (i := 547) (by decide +kernel)⟩
theorem lw_p3 : lw_okq (⟨"PaperMill", "planRefusal", "(I)I"⟩, 11) := ⟨⟨by decide +kernel, by decide +kernel⟩, List.mem_of_getElem? (i := 19) (by decide +kernel), List.mem_of_getElem? (i := 597) (by decide +kernel), List.mem_of_getElem? (i := 598) (by decide +kernel)⟩
theorem lw_p4 : lw_okq (⟨"PaperMill$Orders", "sortByDue", "()I"⟩, 10) := ⟨⟨by decide +kernel, by decide +kernel⟩, List.mem_of_getElem? (i := 307) (by decide +kernel), List.mem_of_getElem? (i := 610) (by decide +kernel), List.mem_of_getElem? (i := 611) (by decide +kernel)⟩
theorem lw_p5 : lw_okq (⟨"PaperMill$Orders", "weigh", "(IIII)V"⟩, 10) := ⟨⟨by decide +kernel, by decide +kernel⟩, List.mem_of_getElem? (i := 307) (by decide +kernel), List.mem_of_getElem? (i := 614) (by decide +kernel), List.mem_of_getElem? (i := 615) (by decide +kernel)⟩
theorem lw_p6 : lw_okq (⟨"PaperMill$Orders", "isBetter", "(II)Z"⟩, 10) := ⟨⟨by decide +kernel, by decide +kernel⟩, List.mem_of_getElem? (i := 307) (by decide +kernel), List.mem_of_getElem? (i := 618) (by decide +kernel), List.mem_of_getElem? (i := 619) (by decide +kernel)⟩
theorem lw_p7 : lw_okq (⟨"PaperMill$Works", "passOne", "()V"⟩, 8) := ⟨⟨by decide +kernel, by decide +kernel⟩, List.mem_of_getElem? (i := 74) (by decide +kernel), List.mem_of_getElem? (i := 643) (by decide +kernel), List.mem_of_getElem? (i := 644) (by decide +kernel)⟩
theorem lw_p8 : lw_okq (⟨"PaperMill$Beaters", "end", "(I[I)V"⟩, 4) := ⟨⟨by decide +kernel, by decide +kernel⟩, List.mem_of_getElem? (i := 80) (by decide +kernel), List.mem_of_getElem? (i := 654) (by decide +kernel), List.mem_of_getElem? (i := 655) (by decide +kernel)⟩
theorem lw_p9 : lw_okq (⟨"PaperMill$Vats", "canMake", "(I)Z"⟩, 9) := ⟨⟨by decide +kernel, by decide +kernel⟩, List.mem_of_getElem? (i := 202) (by decide +kernel), List.mem_of_getElem? (i := 662) (by decide +kernel), List.mem_of_getElem? (i := 663) (by decide +kernel)⟩
theorem lw_p10 : lw_okq (⟨"PaperMill$Vats", "makeSheets", "(II)V"⟩, 9) := ⟨⟨by decide +kernel, by decide +kernel⟩, List.mem_of_getElem? (i := 202) (by decide +kernel), List.mem_of_getElem? (i := 666) (by decide +kernel), List.mem_of_getElem? (i := 667) (by decide +kernel)⟩
theorem lw_p11 : lw_okq (⟨"PaperMill$Vats", "makeSheet", "(I)V"⟩, 9) := ⟨⟨by decide +kernel, by decide +kernel⟩, List.mem_of_getElem? (i := 202) (by decide +kernel), List.mem_of_getElem? (i := 670) (by decide +kernel), List.mem_of_getElem? (i := 671) (by decide +kernel)⟩
theorem lw_p12 : lw_okq (⟨"PaperMill$Vats", "endPost", "(II)V"⟩, 9) := ⟨⟨by decide +kernel, by decide +kernel⟩, List.mem_of_getElem? (i := 202) (by decide +kernel), List.mem_of_getElem? (i := 681) (by decide +kernel), List.mem_of_getElem? (i := 682) (by decide +kernel)⟩
theorem lw_p13 : lw_okq (⟨"PaperMill", "readOld", "(IIII)I"⟩, 11) := ⟨⟨by decide +kernel, by decide +kernel⟩, List.mem_of_getElem? (i := 19) (by decide +kernel), List.mem_of_getElem? (i := 775) (by decide +kernel), List.mem_of_getElem? (i := 776) (by decide +kernel)⟩
theorem lw_p14 : lw_okq (⟨"PaperMill$OldSheet", "liesBy", "(III)Z"⟩, 5) := ⟨⟨by decide +kernel, by decide +kernel⟩, List.mem_of_getElem? (i := 353) (by decide +kernel), List.mem_of_getElem? (i := 791) (by decide +kernel), List.mem_of_getElem? (i := 792) (by decide +kernel)⟩
theorem lw_p15 : lw_okq (⟨"PaperMill$OldSheet", "differsBy", "(III)I"⟩, 5) := ⟨⟨by decide +kernel, by decide +kernel⟩, List.mem_of_getElem? (i := 353) (by decide +kernel), List.mem_of_getElem? (i := 795) (by decide +kernel), List.mem_of_getElem? (i := 796) (by decide +kernel)⟩
def lw_privs_1 : List (MethodName × Nat) := [(⟨"PaperMill", "refuse", "(I)I"⟩, 11), (⟨"PaperMill", "isMould", "(I)Z"⟩, 11), (⟨"PaperMill", "sizePost", "(I)I"⟩, 11), (⟨"PaperMill", "planRefusal", "(I)I"⟩, 11), (⟨"PaperMill$Orders", "sortByDue", "()I"⟩, 10), (⟨"PaperMill$Orders", "weigh", "(IIII)V"⟩, 10), (⟨"PaperMill$Orders", "isBetter", "(II)Z"⟩, 10), (⟨"PaperMill$Works", "passOne", "()V"⟩, 8), (⟨"PaperMill$Beaters", "end", "(I[I)V"⟩, 4), (⟨"PaperMill$Vats", "canMake", "(I)Z"⟩, 9), (⟨"PaperMill$Vats", "makeSheets", "(II)V"⟩, 9), (⟨"PaperMill$Vats", "makeSheet", "(I)V"⟩, 9), (⟨"PaperMill$Vats", "endPost", "(II)V"⟩, 9), (⟨"PaperMill", "readOld", "(IIII)I"⟩, 11), (⟨"PaperMill$OldSheet", "liesBy", "(III)Z"⟩, 5), (⟨"PaperMill$OldSheet", "differsBy", "(III)I"⟩, 5)]
theorem lw_r1 : ∀ q ∈ lw_privs_1, lw_okq q := List.forall_mem_cons.mpr ⟨lw_p0, List.forall_mem_cons.mpr ⟨lw_p1, List.forall_mem_cons.mpr ⟨lw_p2, List.forall_mem_cons.mpr ⟨lw_p3, List.forall_mem_cons.mpr ⟨lw_p4, List.forall_mem_cons.mpr ⟨lw_p5, List.forall_mem_cons.mpr ⟨lw_p6, List.forall_mem_cons.mpr ⟨lw_p7, List.forall_mem_cons.mpr ⟨lw_p8, List.forall_mem_cons.mpr ⟨lw_p9, List.forall_mem_cons.mpr ⟨lw_p10, List.forall_mem_cons.mpr ⟨lw_p11, List.forall_mem_cons.mpr ⟨lw_p12, List.forall_mem_cons.mpr ⟨lw_p13, List.forall_mem_cons.mpr ⟨lw_p14, List.forall_mem_cons.mpr ⟨lw_p15, fun _ h => absurd h List.not_mem_nil⟩⟩⟩⟩⟩⟩⟩⟩⟩⟩⟩⟩⟩⟩⟩⟩
theorem lw_p16 : lw_okq (⟨"PaperMill$OldSheet", "compare", "(II)V"⟩, 5) := ⟨⟨by decide +kernel, by decide +kernel⟩, List.mem_of_getElem? (i := 353) (by decide +kernel), List.mem_of_getElem? (i := 815) (by decide +kernel), List.mem_of_getElem? (i := 816) (by decide +kernel)⟩
theorem lw_p17 : lw_okq (⟨"PaperMill$OldSheet", "nearnessOf", "(II)I"⟩, 5) := ⟨⟨by decide +kernel, by decide +kernel⟩, List.mem_of_getElem? (i := 353) (by decide +kernel), List.mem_of_getElem? (i := 819) (by decide +kernel), List.mem_of_getElem? (i := 820) (by decide +kernel)⟩
theorem lw_p18 : lw_okq (⟨"PaperMill$OldSheet", "hasNear", "(III)Z"⟩, 5) := ⟨⟨by decide +kernel, by decide +kernel⟩, List.mem_of_getElem? (i := 353) (by decide +kernel), List.mem_of_getElem? (i := 835) (by decide +kernel), List.mem_of_getElem? (i := 836) (by decide +kernel)⟩
theorem lw_p19 : lw_okq (⟨"PaperMillModel", "refuse", "(I)I"⟩, 36) := ⟨⟨by decide +kernel, by decide +kernel⟩, List.mem_of_getElem? (i := 869) (by decide +kernel), List.mem_of_getElem? (i := 994) (by decide +kernel), List.mem_of_getElem? (i := 995) (by decide +kernel)⟩
theorem lw_p20 : lw_okq (⟨"PaperMillModel", "reckoned", "(II)I"⟩, 36) := ⟨⟨by decide +kernel, by decide +kernel⟩, List.mem_of_getElem? (i := 869) (by decide +kernel), List.mem_of_getElem? (i := 998) (by decide +kernel), List.mem_of_getElem? (i := 999) (by decide +kernel)⟩
theorem lw_p21 : lw_okq (⟨"PaperMillModel", "isKind", "(I)Z"⟩, 36) := ⟨⟨by decide +kernel, by decide +kernel⟩, List.mem_of_getElem? (i := 869) (by decide +kernel), List.mem_of_getElem? (i := 1010) (by decide +kernel), List.mem_of_getElem? (i := 1011) (by decide +kernel)⟩
theorem lw_p22 : lw_okq (⟨"PaperMillModel", "isRipe", "(I)Z"⟩, 36) := ⟨⟨by decide +kernel, by decide +kernel⟩, List.mem_of_getElem? (i := 869) (by decide +kernel), List.mem_of_getElem? (i := 1026) (by decide +kernel), List.mem_of_getElem? (i := 1027) (by decide +kernel)⟩
theorem lw_p23 : lw_okq (⟨"PaperMillModel", "age", "(I)I"⟩, 36) := ⟨⟨by decide +kernel, by decide +kernel⟩, List.mem_of_getElem? (i := 869) (by decide +kernel), List.mem_of_getElem? (i := 1030) (by decide +kernel), List.mem_of_getElem? (i := 1031) (by decide +kernel)⟩
theorem lw_p24 : lw_okq (⟨"PaperMillModel", "isBegun", "(I)Z"⟩, 36) := ⟨⟨by decide +kernel, by decide +kernel⟩, List.mem_of_getElem? (i := 869) (by decide +kernel), List.mem_of_getElem? (i := 1043) (by decide +kernel), List.mem_of_getElem? (i := 1044) (by decide +kernel)⟩
theorem lw_p25 : lw_okq (⟨"PaperMillModel", "post", "(II)I"⟩, 36) := ⟨⟨by decide +kernel, by decide +kernel⟩, List.mem_of_getElem? (i := 869) (by decide +kernel), List.mem_of_getElem? (i := 1071) (by decide +kernel), List.mem_of_getElem? (i := 1072) (by decide +kernel)⟩
theorem lw_p26 : lw_okq (⟨"PaperMillModel", "sizes", "(I)I"⟩, 36) := ⟨⟨by decide +kernel, by decide +kernel⟩, List.mem_of_getElem? (i := 869) (by decide +kernel), List.mem_of_getElem? (i := 1075) (by decide +kernel), List.mem_of_getElem? (i := 1076) (by decide +kernel)⟩
theorem lw_p27 : lw_okq (⟨"PaperMillModel", "put", "(III)V"⟩, 36) := ⟨⟨by decide +kernel, by decide +kernel⟩, List.mem_of_getElem? (i := 869) (by decide +kernel), List.mem_of_getElem? (i := 1080) (by decide +kernel), List.mem_of_getElem? (i := 1081) (by decide +kernel)⟩
theorem lw_p28 : lw_okq (⟨"PaperMillModel", "today", "()I"⟩, 36) := ⟨⟨by decide +kernel, by decide +kernel⟩, List.mem_of_getElem? (i := 869) (by decide +kernel), List.mem_of_getElem? (i := 1104) (by decide +kernel), List.mem_of_getElem? (i := 1105) (by decide +kernel)⟩
theorem lw_p29 : lw_okq (⟨"PaperMillModel", "bests", "(I)I"⟩, 36) := ⟨⟨by decide +kernel, by decide +kernel⟩, List.mem_of_getElem? (i := 869) (by decide +kernel), List.mem_of_getElem? (i := 1112) (by decide +kernel), List.mem_of_getElem? (i := 1113) (by decide +kernel)⟩
theorem lw_p30 : lw_okq (⟨"PaperMillModel", "hour", "()V"⟩, 36) := ⟨⟨by decide +kernel, by decide +kernel⟩, List.mem_of_getElem? (i := 869) (by decide +kernel), List.mem_of_getElem? (i := 1125) (by decide +kernel), List.mem_of_getElem? (i := 1126) (by decide +kernel)⟩
theorem lw_p31 : lw_okq (⟨"PaperMillModel", "works", "(I)V"⟩, 36) := ⟨⟨by decide +kernel, by decide +kernel⟩, List.mem_of_getElem? (i := 869) (by decide +kernel), List.mem_of_getElem? (i := 1129) (by decide +kernel), List.mem_of_getElem? (i := 1130) (by decide +kernel)⟩
def lw_privs_2 : List (MethodName × Nat) := [(⟨"PaperMill$OldSheet", "compare", "(II)V"⟩, 5), (⟨"PaperMill$OldSheet", "nearnessOf", "(II)I"⟩, 5), (⟨"PaperMill$OldSheet", "hasNear", "(III)Z"⟩, 5), (⟨"PaperMillModel", "refuse", "(I)I"⟩, 36), (⟨"PaperMillModel", "reckoned", "(II)I"⟩, 36), (⟨"PaperMillModel", "isKind", "(I)Z"⟩, 36), (⟨"PaperMillModel", "isRipe", "(I)Z"⟩, 36), (⟨"PaperMillModel", "age", "(I)I"⟩, 36), (⟨"PaperMillModel", "isBegun", "(I)Z"⟩, 36), (⟨"PaperMillModel", "post", "(II)I"⟩, 36), (⟨"PaperMillModel", "sizes", "(I)I"⟩, 36), (⟨"PaperMillModel", "put", "(III)V"⟩, 36), (⟨"PaperMillModel", "today", "()I"⟩, 36), (⟨"PaperMillModel", "bests", "(I)I"⟩, 36), (⟨"PaperMillModel", "hour", "()V"⟩, 36), (⟨"PaperMillModel", "works", "(I)V"⟩, 36)]
theorem lw_r2 : ∀ q ∈ lw_privs_2, lw_okq q := List.forall_mem_cons.mpr ⟨lw_p16, List.forall_mem_cons.mpr ⟨lw_p17, List.forall_mem_cons.mpr ⟨lw_p18, List.forall_mem_cons.mpr ⟨lw_p19, List.forall_mem_cons.mpr ⟨lw_p20, List.forall_mem_cons.mpr ⟨lw_p21, List.forall_mem_cons.mpr ⟨lw_p22, List.forall_mem_cons.mpr ⟨lw_p23, List.forall_mem_cons.mpr ⟨lw_p24, List.forall_mem_cons.mpr ⟨lw_p25, List.forall_mem_cons.mpr ⟨lw_p26, List.forall_mem_cons.mpr ⟨lw_p27, List.forall_mem_cons.mpr ⟨lw_p28, List.forall_mem_cons.mpr ⟨lw_p29, List.forall_mem_cons.mpr ⟨lw_p30, List.forall_mem_cons.mpr ⟨lw_p31, fun _ h => absurd h List.not_mem_nil⟩⟩⟩⟩⟩⟩⟩⟩⟩⟩⟩⟩⟩⟩⟩⟩
theorem lw_p32 : lw_okq (⟨"PaperMillModel", "hasPulp", "(I)Z"⟩, 36) := ⟨⟨by decide +kernel, by decide +kernel⟩, List.mem_of_getElem? (i := 869) (by decide +kernel), List.mem_of_getElem? (i := 1133) (by decide +kernel), List.mem_of_getElem? (i := 1134) (by decide +kernel)⟩
theorem lw_p33 : lw_okq (⟨"PaperMillModel", "sheet", "(I)V"⟩, 36) := ⟨⟨by decide +kernel, by decide +kernel⟩, List.mem_of_getElem? (i := 869) (by decide +kernel), List.mem_of_getElem? (i := 1137) (by decide +kernel), List.mem_of_getElem? (i := 1138) (by decide +kernel)⟩
theorem lw_p34 : lw_okq (⟨"PaperMillModel", "wanders", "(I)V"⟩, 36) := ⟨⟨by decide +kernel, by decide +kernel⟩, List.mem_of_getElem? (i := 869) (by decide +kernel), List.mem_of_getElem? (i := 1141) (by decide +kernel), List.mem_of_getElem? (i := 1142) (by decide +kernel)⟩
theorem lw_p35 : lw_okq (⟨"PaperMillModel", "inState", "(I)I"⟩, 36) := ⟨⟨by decide +kernel, by decide +kernel⟩, List.mem_of_getElem? (i := 869) (by decide +kernel), List.mem_of_getElem? (i := 1145) (by decide +kernel), List.mem_of_getElem? (i := 1146) (by decide +kernel)⟩
theorem lw_p36 : lw_okq (⟨"PaperMillModel", "begins", "()V"⟩, 36) := ⟨⟨by decide +kernel, by decide +kernel⟩, List.mem_of_getElem? (i := 869) (by decide +kernel), List.mem_of_getElem? (i := 1153) (by decide +kernel), List.mem_of_getElem? (i := 1154) (by decide +kernel)⟩
theorem lw_p37 : lw_okq (⟨"PaperMillModel", "dried", "()I"⟩, 36) := ⟨⟨by decide +kernel, by decide +kernel⟩, List.mem_of_getElem? (i := 869) (by decide +kernel), List.mem_of_getElem? (i := 1157) (by decide +kernel), List.mem_of_getElem? (i := 1158) (by decide +kernel)⟩
theorem lw_p38 : lw_okq (⟨"PaperMillModel", "ends", "()V"⟩, 36) := ⟨⟨by decide +kernel, by decide +kernel⟩, List.mem_of_getElem? (i := 869) (by decide +kernel), List.mem_of_getElem? (i := 1161) (by decide +kernel), List.mem_of_getElem? (i := 1162) (by decide +kernel)⟩
theorem lw_p39 : lw_okq (⟨"PaperMillModel", "olds", "(IIII)I"⟩, 36) := ⟨⟨by decide +kernel, by decide +kernel⟩, List.mem_of_getElem? (i := 869) (by decide +kernel), List.mem_of_getElem? (i := 1177) (by decide +kernel), List.mem_of_getElem? (i := 1178) (by decide +kernel)⟩
theorem lw_p40 : lw_okq (⟨"PaperMillModel", "isBy", "(II)Z"⟩, 36) := ⟨⟨by decide +kernel, by decide +kernel⟩, List.mem_of_getElem? (i := 869) (by decide +kernel), List.mem_of_getElem? (i := 1189) (by decide +kernel), List.mem_of_getElem? (i := 1190) (by decide +kernel)⟩
theorem lw_p41 : lw_okq (⟨"PaperMillModel", "far", "(II)I"⟩, 36) := ⟨⟨by decide +kernel, by decide +kernel⟩, List.mem_of_getElem? (i := 869) (by decide +kernel), List.mem_of_getElem? (i := 1193) (by decide +kernel), List.mem_of_getElem? (i := 1194) (by decide +kernel)⟩
theorem lw_p42 : lw_okq (⟨"PaperMillModel", "mouldOfSheet", "(I)I"⟩, 36) := ⟨⟨by decide +kernel, by decide +kernel⟩, List.mem_of_getElem? (i := 869) (by decide +kernel), List.mem_of_getElem? (i := 1202) (by decide +kernel), List.mem_of_getElem? (i := 1203) (by decide +kernel)⟩
def lw_privs_3 : List (MethodName × Nat) := [(⟨"PaperMillModel", "hasPulp", "(I)Z"⟩, 36), (⟨"PaperMillModel", "sheet", "(I)V"⟩, 36), (⟨"PaperMillModel", "wanders", "(I)V"⟩, 36), (⟨"PaperMillModel", "inState", "(I)I"⟩, 36), (⟨"PaperMillModel", "begins", "()V"⟩, 36), (⟨"PaperMillModel", "dried", "()I"⟩, 36), (⟨"PaperMillModel", "ends", "()V"⟩, 36), (⟨"PaperMillModel", "olds", "(IIII)I"⟩, 36), (⟨"PaperMillModel", "isBy", "(II)Z"⟩, 36), (⟨"PaperMillModel", "far", "(II)I"⟩, 36), (⟨"PaperMillModel", "mouldOfSheet", "(I)I"⟩, 36)]
theorem lw_r3 : ∀ q ∈ lw_privs_3, lw_okq q := List.forall_mem_cons.mpr ⟨lw_p32, List.forall_mem_cons.mpr ⟨lw_p33, List.forall_mem_cons.mpr ⟨lw_p34, List.forall_mem_cons.mpr ⟨lw_p35, List.forall_mem_cons.mpr ⟨lw_p36, List.forall_mem_cons.mpr ⟨lw_p37, List.forall_mem_cons.mpr ⟨lw_p38, List.forall_mem_cons.mpr ⟨lw_p39, List.forall_mem_cons.mpr ⟨lw_p40, List.forall_mem_cons.mpr ⟨lw_p41, List.forall_mem_cons.mpr ⟨lw_p42, fun _ h => absurd h List.not_mem_nil⟩⟩⟩⟩⟩⟩⟩⟩⟩⟩⟩
def lw_privs : List (MethodName × Nat) := lw_privs_1 ++ (lw_privs_2 ++ (lw_privs_3))
def lw_tbl : List Cond := k2_sels lw_privs ++ tables_1
theorem lw_privs_ok : ∀ q ∈ lw_privs, lw_okq q := by
  show ∀ q ∈ lw_privs_1 ++ (lw_privs_2 ++ (lw_privs_3)), lw_okq q
  exact List.forall_mem_append.mpr ⟨lw_r1, List.forall_mem_append.mpr ⟨lw_r2, lw_r3⟩⟩
end
section
def RX0 : String := "PaperMill$Beaters"
def TX0 : u_T := fun k => match k with
  | 0 => ("PaperMill$Beaters", "pounds", "[I", true)
  | 1 => ("PaperMill$Beaters", "kind", "[I", true)
  | 2 => ("PaperMill$Beaters", "left", "[I", true)
  | _ => ("PaperMill$Beaters", "iron", "[I", true)
def tyX0 : Nat → FieldType := fun k => match k with
  | 0 => .array .int
  | 1 => .array .int
  | 2 => .array .int
  | _ => .array .int
abbrev wsX00 : List Cond := u_ws RX0 TX0 4
theorem nmX0 : ∀ a, a < 4 → ∀ b, b < 4 → a ≠ b → (TX0 a).2.1 ≠ (TX0 b).2.1 := by decide +kernel
theorem tyX0_ok : ∀ k, k < 4 → parseFieldDescriptor (TX0 k).2.2.1 = some (tyX0 k) := by decide +kernel
abbrev cX0_init : ByteArray := prog_2_method_1_code
def yX0_init : MethodName := ⟨RX0, "<init>", "()V"⟩
abbrev cX0_copyFrom : ByteArray := prog_2_method_2_code
def yX0_copyFrom : MethodName := ⟨RX0, "copyFrom", "(LPaperMill$Beaters;)V"⟩
abbrev cX0_isEmpty : ByteArray := prog_2_method_3_code
def yX0_isEmpty : MethodName := ⟨RX0, "isEmpty", "(I)Z"⟩
abbrev cX0_take : ByteArray := prog_2_method_4_code
def yX0_take : MethodName := ⟨RX0, "take", "(IIII)V"⟩
abbrev cX0_work : ByteArray := prog_2_method_5_code
def yX0_work : MethodName := ⟨RX0, "work", "(I[I)I"⟩
abbrev cX0_end : ByteArray := prog_2_method_6_code
def yX0_end : MethodName := ⟨RX0, "end", "(I[I)V"⟩
def RX1 : String := "PaperMill$Heaps"
def TX1 : u_T := fun k => match k with
  | 0 => ("PaperMill$Heaps", "rags", "LPaperMill$Rags;", true)
  | 1 => ("PaperMill$Heaps", "kind", "[I", true)
  | 2 => ("PaperMill$Heaps", "pounds", "[I", true)
  | 3 => ("PaperMill$Heaps", "laidAt", "[I", true)
  | 4 => ("PaperMill$Heaps", "spoiled", "[I", true)
  | 5 => ("PaperMill$Heaps", "laid", "I", false)
  | _ => ("PaperMill$Heaps", "lost", "I", false)
def tyX1 : Nat → FieldType := fun k => match k with
  | 0 => .object "PaperMill$Rags"
  | 1 => .array .int
  | 2 => .array .int
  | 3 => .array .int
  | 4 => .array .int
  | 5 => .int
  | _ => .int
abbrev wsX10 : List Cond := u_ws RX1 TX1 7
theorem nmX1 : ∀ a, a < 7 → ∀ b, b < 7 → a ≠ b → (TX1 a).2.1 ≠ (TX1 b).2.1 := by decide +kernel
theorem tyX1_ok : ∀ k, k < 7 → parseFieldDescriptor (TX1 k).2.2.1 = some (tyX1 k) := by decide +kernel
abbrev cX1_init : ByteArray := prog_3_method_1_code
def yX1_init : MethodName := ⟨RX1, "<init>", "(LPaperMill$Rags;)V"⟩
abbrev cX1_copyFrom : ByteArray := prog_3_method_2_code
def yX1_copyFrom : MethodName := ⟨RX1, "copyFrom", "(LPaperMill$Heaps;)V"⟩
abbrev cX1_lay : ByteArray := prog_3_method_3_code
def yX1_lay : MethodName := ⟨RX1, "lay", "(III)I"⟩
abbrev cX1_ageOf : ByteArray := prog_3_method_4_code
def yX1_ageOf : MethodName := ⟨RX1, "ageOf", "(II)I"⟩
abbrev cX1_isRipe : ByteArray := prog_3_method_5_code
def yX1_isRipe : MethodName := ⟨RX1, "isRipe", "(II)Z"⟩
abbrev cX1_spoilOld : ByteArray := prog_3_method_6_code
def yX1_spoilOld : MethodName := ⟨RX1, "spoilOld", "(I)V"⟩
def RX2 : String := "PaperMill$Marks"
def TX2 : u_T := fun k => match k with
  | 0 => ("PaperMill$Marks", "wires", "[I", true)
  | _ => ("PaperMill$Marks", "early", "[I", true)
def tyX2 : Nat → FieldType := fun k => match k with
  | 0 => .array .int
  | _ => .array .int
abbrev wsX20 : List Cond := u_ws RX2 TX2 2
theorem nmX2 : ∀ a, a < 2 → ∀ b, b < 2 → a ≠ b → (TX2 a).2.1 ≠ (TX2 b).2.1 := by decide +kernel
theorem tyX2_ok : ∀ k, k < 2 → parseFieldDescriptor (TX2 k).2.2.1 = some (tyX2 k) := by decide +kernel
abbrev cX2_init : ByteArray := prog_4_method_1_code
def yX2_init : MethodName := ⟨RX2, "<init>", "()V"⟩
abbrev cX2_keep : ByteArray := prog_4_method_2_code
def yX2_keep : MethodName := ⟨RX2, "keep", "(I[IILPaperMill$Moulds;I)V"⟩
abbrev cX2_markOf : ByteArray := prog_4_method_3_code
def yX2_markOf : MethodName := ⟨RX2, "markOf", "(III)I"⟩
abbrev cX2_groupMark : ByteArray := prog_4_method_4_code
def yX2_groupMark : MethodName := ⟨RX2, "groupMark", "(III)I"⟩
abbrev cX2_groupSheets : ByteArray := prog_4_method_5_code
def yX2_groupSheets : MethodName := ⟨RX2, "groupSheets", "(II)I"⟩
abbrev cX2_groupFirst : ByteArray := prog_4_method_6_code
def yX2_groupFirst : MethodName := ⟨RX2, "groupFirst", "(II)I"⟩
def RX3 : String := "PaperMill$Moulds"
def TX3 : u_T := fun k => match k with
  | 0 => ("PaperMill$Moulds", "weight", "[I", true)
  | 1 => ("PaperMill$Moulds", "wires", "[I", true)
  | 2 => ("PaperMill$Moulds", "made", "[I", true)
  | _ => ("PaperMill$Moulds", "pairs", "I", false)
def tyX3 : Nat → FieldType := fun k => match k with
  | 0 => .array .int
  | 1 => .array .int
  | 2 => .array .int
  | _ => .int
abbrev wsX30 : List Cond := u_ws RX3 TX3 4
theorem nmX3 : ∀ a, a < 4 → ∀ b, b < 4 → a ≠ b → (TX3 a).2.1 ≠ (TX3 b).2.1 := by decide +kernel
theorem tyX3_ok : ∀ k, k < 4 → parseFieldDescriptor (TX3 k).2.2.1 = some (tyX3 k) := by decide +kernel
abbrev cX3_init : ByteArray := prog_5_method_1_code
def yX3_init : MethodName := ⟨RX3, "<init>", "()V"⟩
abbrev cX3_copyFrom : ByteArray := prog_5_method_2_code
def yX3_copyFrom : MethodName := ⟨RX3, "copyFrom", "(LPaperMill$Moulds;)V"⟩
abbrev cX3_addPair : ByteArray := prog_5_method_3_code
def yX3_addPair : MethodName := ⟨RX3, "addPair", "(I)I"⟩
abbrev cX3_wireOf : ByteArray := prog_5_method_4_code
def yX3_wireOf : MethodName := ⟨RX3, "wireOf", "(II)I"⟩
abbrev cX3_setWire : ByteArray := prog_5_method_5_code
def yX3_setWire : MethodName := ⟨RX3, "setWire", "(III)V"⟩
abbrev cX3_countSheet : ByteArray := prog_5_method_6_code
def yX3_countSheet : MethodName := ⟨RX3, "countSheet", "(I)V"⟩
def RX4 : String := "PaperMill$OldSheet"
def TX4 : u_T := fun k => match k with
  | 0 => ("PaperMill$OldSheet", "posts", "LPaperMill$Posts;", true)
  | 1 => ("PaperMill$OldSheet", "marks", "[I", true)
  | 2 => ("PaperMill$OldSheet", "nearestPost", "I", false)
  | 3 => ("PaperMill$OldSheet", "nearestSheet", "I", false)
  | _ => ("PaperMill$OldSheet", "nearness", "I", false)
def tyX4 : Nat → FieldType := fun k => match k with
  | 0 => .object "PaperMill$Posts"
  | 1 => .array .int
  | 2 => .int
  | 3 => .int
  | _ => .int
abbrev wsX40 : List Cond := u_ws RX4 TX4 5
theorem nmX4 : ∀ a, a < 5 → ∀ b, b < 5 → a ≠ b → (TX4 a).2.1 ≠ (TX4 b).2.1 := by decide +kernel
theorem tyX4_ok : ∀ k, k < 5 → parseFieldDescriptor (TX4 k).2.2.1 = some (tyX4 k) := by decide +kernel
abbrev cX4_init : ByteArray := prog_6_method_1_code
def yX4_init : MethodName := ⟨RX4, "<init>", "(LPaperMill$Posts;)V"⟩
abbrev cX4_countNear : ByteArray := prog_6_method_2_code
def yX4_countNear : MethodName := ⟨RX4, "countNear", "(I)I"⟩
abbrev cX4_liesBy : ByteArray := prog_6_method_3_code
def yX4_liesBy : MethodName := ⟨RX4, "liesBy", "(III)Z"⟩
abbrev cX4_differsBy : ByteArray := prog_6_method_4_code
def yX4_differsBy : MethodName := ⟨RX4, "differsBy", "(III)I"⟩
abbrev cX4_nearnessOf : ByteArray := prog_6_method_5_code
def yX4_nearnessOf : MethodName := ⟨RX4, "nearnessOf", "(II)I"⟩
abbrev cX4_findNearest : ByteArray := prog_6_method_6_code
def yX4_findNearest : MethodName := ⟨RX4, "findNearest", "()V"⟩
abbrev cX4_compare : ByteArray := prog_6_method_7_code
def yX4_compare : MethodName := ⟨RX4, "compare", "(II)V"⟩
abbrev cX4_hourOf : ByteArray := prog_6_method_8_code
def yX4_hourOf : MethodName := ⟨RX4, "hourOf", "(IIZ)I"⟩
abbrev cX4_hasNear : ByteArray := prog_6_method_9_code
def yX4_hasNear : MethodName := ⟨RX4, "hasNear", "(III)Z"⟩
def RX5 : String := "PaperMill$Orders"
def TX5 : u_T := fun k => match k with
  | 0 => ("PaperMill$Orders", "kind", "[I", true)
  | 1 => ("PaperMill$Orders", "weight", "[I", true)
  | 2 => ("PaperMill$Orders", "reams", "[I", true)
  | 3 => ("PaperMill$Orders", "due", "[I", true)
  | 4 => ("PaperMill$Orders", "price", "[I", true)
  | 5 => ("PaperMill$Orders", "filledAt", "[I", true)
  | 6 => ("PaperMill$Orders", "taken", "I", false)
  | 7 => ("PaperMill$Orders", "byDue", "[I", true)
  | 8 => ("PaperMill$Orders", "bestSet", "I", false)
  | _ => ("PaperMill$Orders", "bestSum", "I", false)
def tyX5 : Nat → FieldType := fun k => match k with
  | 0 => .array .int
  | 1 => .array .int
  | 2 => .array .int
  | 3 => .array .int
  | 4 => .array .int
  | 5 => .array .int
  | 6 => .int
  | 7 => .array .int
  | 8 => .int
  | _ => .int
abbrev wsX50 : List Cond := u_ws RX5 TX5 10
theorem nmX5 : ∀ a, a < 10 → ∀ b, b < 10 → a ≠ b → (TX5 a).2.1 ≠ (TX5 b).2.1 := by decide +kernel
theorem tyX5_ok : ∀ k, k < 10 → parseFieldDescriptor (TX5 k).2.2.1 = some (tyX5 k) := by decide +kernel
abbrev cX5_init : ByteArray := prog_7_method_1_code
def yX5_init : MethodName := ⟨RX5, "<init>", "()V"⟩
abbrev cX5_take : ByteArray := prog_7_method_2_code
def yX5_take : MethodName := ⟨RX5, "take", "(IIIII)I"⟩
abbrev cX5_isOpen : ByteArray := prog_7_method_3_code
def yX5_isOpen : MethodName := ⟨RX5, "isOpen", "(I)Z"⟩
abbrev cX5_open : ByteArray := prog_7_method_4_code
def yX5_open : MethodName := ⟨RX5, "open", "()I"⟩
abbrev cX5_coinsFor : ByteArray := prog_7_method_5_code
def yX5_coinsFor : MethodName := ⟨RX5, "coinsFor", "(III)I"⟩
abbrev cX5_plan : ByteArray := prog_7_method_6_code
def yX5_plan : MethodName := ⟨RX5, "plan", "(II)V"⟩
abbrev cX5_sortByDue : ByteArray := prog_7_method_7_code
def yX5_sortByDue : MethodName := ⟨RX5, "sortByDue", "()I"⟩
abbrev cX5_weigh : ByteArray := prog_7_method_8_code
def yX5_weigh : MethodName := ⟨RX5, "weigh", "(IIII)V"⟩
abbrev cX5_isBetter : ByteArray := prog_7_method_9_code
def yX5_isBetter : MethodName := ⟨RX5, "isBetter", "(II)Z"⟩
def RX6 : String := "PaperMill$Posts"
def TX6 : u_T := fun k => match k with
  | 0 => ("PaperMill$Posts", "marks", "LPaperMill$Marks;", true)
  | 1 => ("PaperMill$Posts", "pair", "[I", true)
  | 2 => ("PaperMill$Posts", "kind", "[I", true)
  | 3 => ("PaperMill$Posts", "doneAt", "[I", true)
  | 4 => ("PaperMill$Posts", "hungAt", "[I", true)
  | 5 => ("PaperMill$Posts", "dryness", "[I", true)
  | 6 => ("PaperMill$Posts", "driedAt", "[I", true)
  | 7 => ("PaperMill$Posts", "good", "[I", true)
  | 8 => ("PaperMill$Posts", "done", "I", false)
  | 9 => ("PaperMill$Posts", "hung", "I", false)
  | 10 => ("PaperMill$Posts", "dried", "I", false)
  | _ => ("PaperMill$Posts", "room", "I", false)
def tyX6 : Nat → FieldType := fun k => match k with
  | 0 => .object "PaperMill$Marks"
  | 1 => .array .int
  | 2 => .array .int
  | 3 => .array .int
  | 4 => .array .int
  | 5 => .array .int
  | 6 => .array .int
  | 7 => .array .int
  | 8 => .int
  | 9 => .int
  | 10 => .int
  | _ => .int
abbrev wsX60 : List Cond := u_ws RX6 TX6 12
theorem nmX6 : ∀ a, a < 12 → ∀ b, b < 12 → a ≠ b → (TX6 a).2.1 ≠ (TX6 b).2.1 := by decide +kernel
theorem tyX6_ok : ∀ k, k < 12 → parseFieldDescriptor (TX6 k).2.2.1 = some (tyX6 k) := by decide +kernel
abbrev cX6_init : ByteArray := prog_8_method_1_code
def yX6_init : MethodName := ⟨RX6, "<init>", "()V"⟩
abbrev cX6_copyFrom : ByteArray := prog_8_method_2_code
def yX6_copyFrom : MethodName := ⟨RX6, "copyFrom", "(LPaperMill$Posts;)V"⟩
abbrev cX6_add : ByteArray := prog_8_method_3_code
def yX6_add : MethodName := ⟨RX6, "add", "(III)V"⟩
abbrev cX6_hanging : ByteArray := prog_8_method_4_code
def yX6_hanging : MethodName := ⟨RX6, "hanging", "()I"⟩
abbrev cX6_stateOf : ByteArray := prog_8_method_5_code
def yX6_stateOf : MethodName := ⟨RX6, "stateOf", "(I)I"⟩
abbrev cX6_hangWet : ByteArray := prog_8_method_6_code
def yX6_hangWet : MethodName := ⟨RX6, "hangWet", "(I)V"⟩
abbrev cX6_dryHanging : ByteArray := prog_8_method_7_code
def yX6_dryHanging : MethodName := ⟨RX6, "dryHanging", "(II)V"⟩
abbrev cX6_finish : ByteArray := prog_8_method_8_code
def yX6_finish : MethodName := ⟨RX6, "finish", "(I)I"⟩
def RX7 : String := "PaperMill$Rags"
def TX7 : u_T := fun k => match k with
  | 0 => ("PaperMill$Rags", "ripe", "[I", true)
  | 1 => ("PaperMill$Rags", "spoil", "[I", true)
  | 2 => ("PaperMill$Rags", "beat", "[I", true)
  | _ => ("PaperMill$Rags", "store", "[I", true)
def tyX7 : Nat → FieldType := fun k => match k with
  | 0 => .array .int
  | 1 => .array .int
  | 2 => .array .int
  | _ => .array .int
abbrev wsX70 : List Cond := u_ws RX7 TX7 4
theorem nmX7 : ∀ a, a < 4 → ∀ b, b < 4 → a ≠ b → (TX7 a).2.1 ≠ (TX7 b).2.1 := by decide +kernel
theorem tyX7_ok : ∀ k, k < 4 → parseFieldDescriptor (TX7 k).2.2.1 = some (tyX7 k) := by decide +kernel
abbrev cX7_init : ByteArray := prog_9_method_1_code
def yX7_init : MethodName := ⟨RX7, "<init>", "()V"⟩
def RX8 : String := "PaperMill$Vats"
def TX8 : u_T := fun k => match k with
  | 0 => ("PaperMill$Vats", "pulp", "[I", true)
  | 1 => ("PaperMill$Vats", "moulds", "LPaperMill$Moulds;", true)
  | 2 => ("PaperMill$Vats", "posts", "LPaperMill$Posts;", true)
  | 3 => ("PaperMill$Vats", "pair", "[I", true)
  | 4 => ("PaperMill$Vats", "kind", "[I", true)
  | 5 => ("PaperMill$Vats", "begun", "[I", true)
  | 6 => ("PaperMill$Vats", "idle", "[I", true)
  | 7 => ("PaperMill$Vats", "firstWires", "[I", true)
  | _ => ("PaperMill$Vats", "sheetsMade", "I", false)
def tyX8 : Nat → FieldType := fun k => match k with
  | 0 => .array .int
  | 1 => .object "PaperMill$Moulds"
  | 2 => .object "PaperMill$Posts"
  | 3 => .array .int
  | 4 => .array .int
  | 5 => .array .int
  | 6 => .array .int
  | 7 => .array .int
  | _ => .int
abbrev wsX80 : List Cond := u_ws RX8 TX8 9
theorem nmX8 : ∀ a, a < 9 → ∀ b, b < 9 → a ≠ b → (TX8 a).2.1 ≠ (TX8 b).2.1 := by decide +kernel
theorem tyX8_ok : ∀ k, k < 9 → parseFieldDescriptor (TX8 k).2.2.1 = some (tyX8 k) := by decide +kernel
abbrev cX8_init : ByteArray := prog_10_method_1_code
def yX8_init : MethodName := ⟨RX8, "<init>", "([ILPaperMill$Moulds;LPaperMill$Posts;)V"⟩
abbrev cX8_copyFrom : ByteArray := prog_10_method_2_code
def yX8_copyFrom : MethodName := ⟨RX8, "copyFrom", "(LPaperMill$Vats;)V"⟩
abbrev cX8_isPairElsewhere : ByteArray := prog_10_method_3_code
def yX8_isPairElsewhere : MethodName := ⟨RX8, "isPairElsewhere", "(II)Z"⟩
abbrev cX8_isPairAtPost : ByteArray := prog_10_method_4_code
def yX8_isPairAtPost : MethodName := ⟨RX8, "isPairAtPost", "(I)Z"⟩
abbrev cX8_work : ByteArray := prog_10_method_5_code
def yX8_work : MethodName := ⟨RX8, "work", "(II)V"⟩
abbrev cX8_canMake : ByteArray := prog_10_method_6_code
def yX8_canMake : MethodName := ⟨RX8, "canMake", "(I)Z"⟩
abbrev cX8_makeSheets : ByteArray := prog_10_method_7_code
def yX8_makeSheets : MethodName := ⟨RX8, "makeSheets", "(II)V"⟩
abbrev cX8_makeSheet : ByteArray := prog_10_method_8_code
def yX8_makeSheet : MethodName := ⟨RX8, "makeSheet", "(I)V"⟩
abbrev cX8_endPost : ByteArray := prog_10_method_9_code
def yX8_endPost : MethodName := ⟨RX8, "endPost", "(II)V"⟩
def RX9 : String := "PaperMill$Weather"
def TX9 : u_T := fun k => match k with
  | 0 => ("PaperMill$Weather", "told", "[[I", true)
  | _ => ("PaperMill$Weather", "reckoned", "[[I", true)
def tyX9 : Nat → FieldType := fun k => match k with
  | 0 => .array (.array .int)
  | _ => .array (.array .int)
abbrev wsX90 : List Cond := u_ws RX9 TX9 2
theorem nmX9 : ∀ a, a < 2 → ∀ b, b < 2 → a ≠ b → (TX9 a).2.1 ≠ (TX9 b).2.1 := by decide +kernel
theorem tyX9_ok : ∀ k, k < 2 → parseFieldDescriptor (TX9 k).2.2.1 = some (tyX9 k) := by decide +kernel
abbrev cX9_init : ByteArray := prog_11_method_1_code
def yX9_init : MethodName := ⟨RX9, "<init>", "()V"⟩
abbrev cX9_on : ByteArray := prog_11_method_2_code
def yX9_on : MethodName := ⟨RX9, "on", "(II)I"⟩
abbrev cX9_tell : ByteArray := prog_11_method_3_code
def yX9_tell : MethodName := ⟨RX9, "tell", "(III)V"⟩
abbrev cX9_reckon : ByteArray := prog_11_method_4_code
def yX9_reckon : MethodName := ⟨RX9, "reckon", "([I[II)V"⟩
abbrev cX9_between : ByteArray := prog_11_method_5_code
def yX9_between : MethodName := ⟨RX9, "between", "(III)I"⟩
def RX10 : String := "PaperMill$Works"
def TX10 : u_T := fun k => match k with
  | 0 => ("PaperMill$Works", "weather", "LPaperMill$Weather;", true)
  | 1 => ("PaperMill$Works", "pulp", "[I", true)
  | 2 => ("PaperMill$Works", "heaps", "LPaperMill$Heaps;", true)
  | 3 => ("PaperMill$Works", "beaters", "LPaperMill$Beaters;", true)
  | 4 => ("PaperMill$Works", "moulds", "LPaperMill$Moulds;", true)
  | 5 => ("PaperMill$Works", "posts", "LPaperMill$Posts;", true)
  | 6 => ("PaperMill$Works", "vats", "LPaperMill$Vats;", true)
  | _ => ("PaperMill$Works", "hour", "I", false)
def tyX10 : Nat → FieldType := fun k => match k with
  | 0 => .object "PaperMill$Weather"
  | 1 => .array .int
  | 2 => .object "PaperMill$Heaps"
  | 3 => .object "PaperMill$Beaters"
  | 4 => .object "PaperMill$Moulds"
  | 5 => .object "PaperMill$Posts"
  | 6 => .object "PaperMill$Vats"
  | _ => .int
abbrev wsX100 : List Cond := u_ws RX10 TX10 8
theorem nmX10 : ∀ a, a < 8 → ∀ b, b < 8 → a ≠ b → (TX10 a).2.1 ≠ (TX10 b).2.1 := by decide +kernel
theorem tyX10_ok : ∀ k, k < 8 → parseFieldDescriptor (TX10 k).2.2.1 = some (tyX10 k) := by decide +kernel
abbrev cX10_init : ByteArray := prog_12_method_1_code
def yX10_init : MethodName := ⟨RX10, "<init>", "(LPaperMill$Weather;LPaperMill$Rags;)V"⟩
abbrev cX10_become : ByteArray := prog_12_method_2_code
def yX10_become : MethodName := ⟨RX10, "become", "(LPaperMill$Works;)V"⟩
abbrev cX10_today : ByteArray := prog_12_method_3_code
def yX10_today : MethodName := ⟨RX10, "today", "()I"⟩
abbrev cX10_pulpOfAll : ByteArray := prog_12_method_4_code
def yX10_pulpOfAll : MethodName := ⟨RX10, "pulpOfAll", "()I"⟩
abbrev cX10_pass : ByteArray := prog_12_method_5_code
def yX10_pass : MethodName := ⟨RX10, "pass", "(I)V"⟩
abbrev cX10_passOne : ByteArray := prog_12_method_6_code
def yX10_passOne : MethodName := ⟨RX10, "passOne", "()V"⟩
def RX11 : String := "PaperMill"
def TX11 : u_T := fun k => match k with
  | 0 => ("PaperMill", "weather", "LPaperMill$Weather;", true)
  | 1 => ("PaperMill", "rags", "LPaperMill$Rags;", true)
  | 2 => ("PaperMill", "works", "LPaperMill$Works;", true)
  | 3 => ("PaperMill", "dream", "LPaperMill$Works;", true)
  | 4 => ("PaperMill", "orders", "LPaperMill$Orders;", true)
  | 5 => ("PaperMill", "oldSheet", "LPaperMill$OldSheet;", true)
  | 6 => ("PaperMill", "duties", "[I", true)
  | 7 => ("PaperMill", "stock", "[I", true)
  | 8 => ("PaperMill", "refusals", "[I", true)
  | 9 => ("PaperMill", "hidesLeft", "I", false)
  | _ => ("PaperMill", "coins", "I", false)
def tyX11 : Nat → FieldType := fun k => match k with
  | 0 => .object "PaperMill$Weather"
  | 1 => .object "PaperMill$Rags"
  | 2 => .object "PaperMill$Works"
  | 3 => .object "PaperMill$Works"
  | 4 => .object "PaperMill$Orders"
  | 5 => .object "PaperMill$OldSheet"
  | 6 => .array .int
  | 7 => .array .int
  | 8 => .array .int
  | 9 => .int
  | _ => .int
abbrev wsX110 : List Cond := u_ws RX11 TX11 11
theorem nmX11 : ∀ a, a < 11 → ∀ b, b < 11 → a ≠ b → (TX11 a).2.1 ≠ (TX11 b).2.1 := by decide +kernel
theorem tyX11_ok : ∀ k, k < 11 → parseFieldDescriptor (TX11 k).2.2.1 = some (tyX11 k) := by decide +kernel
abbrev cX11_init : ByteArray := prog_1_method_1_code
def yX11_init : MethodName := ⟨RX11, "<init>", "()V"⟩
abbrev cX11_day : ByteArray := prog_1_method_2_code
def yX11_day : MethodName := ⟨RX11, "day", "(III)I"⟩
abbrev cX11_dayOf : ByteArray := prog_1_method_3_code
def yX11_dayOf : MethodName := ⟨RX11, "dayOf", "(II)I"⟩
abbrev cX11_kind : ByteArray := prog_1_method_4_code
def yX11_kind : MethodName := ⟨RX11, "kind", "(IIII)I"⟩
abbrev cX11_rags : ByteArray := prog_1_method_5_code
def yX11_rags : MethodName := ⟨RX11, "rags", "(II)I"⟩
abbrev cX11_heap : ByteArray := prog_1_method_6_code
def yX11_heap : MethodName := ⟨RX11, "heap", "(II)I"⟩
abbrev cX11_load : ByteArray := prog_1_method_7_code
def yX11_load : MethodName := ⟨RX11, "load", "(III)I"⟩
abbrev cX11_pair : ByteArray := prog_1_method_8_code
def yX11_pair : MethodName := ⟨RX11, "pair", "(I)I"⟩
abbrev cX11_wire : ByteArray := prog_1_method_9_code
def yX11_wire : MethodName := ⟨RX11, "wire", "(III)I"⟩
abbrev cX11_mouldOf : ByteArray := prog_1_method_10_code
def yX11_mouldOf : MethodName := ⟨RX11, "mouldOf", "(II)I"⟩
abbrev cX11_vat : ByteArray := prog_1_method_11_code
def yX11_vat : MethodName := ⟨RX11, "vat", "(II)I"⟩
abbrev cX11_furnish : ByteArray := prog_1_method_12_code
def yX11_furnish : MethodName := ⟨RX11, "furnish", "(II)I"⟩
abbrev cX11_loft : ByteArray := prog_1_method_13_code
def yX11_loft : MethodName := ⟨RX11, "loft", "(I)I"⟩
abbrev cX11_hides : ByteArray := prog_1_method_14_code
def yX11_hides : MethodName := ⟨RX11, "hides", "(I)I"⟩
abbrev cX11_size : ByteArray := prog_1_method_15_code
def yX11_size : MethodName := ⟨RX11, "size", "(I)I"⟩
abbrev cX11_sizeAll : ByteArray := prog_1_method_16_code
def yX11_sizeAll : MethodName := ⟨RX11, "sizeAll", "()I"⟩
abbrev cX11_duty : ByteArray := prog_1_method_17_code
def yX11_duty : MethodName := ⟨RX11, "duty", "(II)I"⟩
abbrev cX11_order : ByteArray := prog_1_method_18_code
def yX11_order : MethodName := ⟨RX11, "order", "(IIIII)I"⟩
abbrev cX11_fill : ByteArray := prog_1_method_19_code
def yX11_fill : MethodName := ⟨RX11, "fill", "(I)I"⟩
abbrev cX11_best : ByteArray := prog_1_method_20_code
def yX11_best : MethodName := ⟨RX11, "best", "(I)I"⟩
abbrev cX11_bestWorth : ByteArray := prog_1_method_21_code
def yX11_bestWorth : MethodName := ⟨RX11, "bestWorth", "(I)I"⟩
abbrev cX11_hours : ByteArray := prog_1_method_22_code
def yX11_hours : MethodName := ⟨RX11, "hours", "(I)I"⟩
abbrev cX11_foretell : ByteArray := prog_1_method_23_code
def yX11_foretell : MethodName := ⟨RX11, "foretell", "(II)I"⟩
abbrev cX11_when : ByteArray := prog_1_method_24_code
def yX11_when : MethodName := ⟨RX11, "when", "(I)I"⟩
abbrev cX11_mark : ByteArray := prog_1_method_25_code
def yX11_mark : MethodName := ⟨RX11, "mark", "(III)I"⟩
abbrev cX11_oldA : ByteArray := prog_1_method_26_code
def yX11_oldA : MethodName := ⟨RX11, "oldA", "(III)I"⟩
abbrev cX11_oldB : ByteArray := prog_1_method_27_code
def yX11_oldB : MethodName := ⟨RX11, "oldB", "(III)I"⟩
abbrev cX11_lies : ByteArray := prog_1_method_28_code
def yX11_lies : MethodName := ⟨RX11, "lies", "(I)I"⟩
abbrev cX11_nearest : ByteArray := prog_1_method_29_code
def yX11_nearest : MethodName := ⟨RX11, "nearest", "(I)I"⟩
abbrev cX11_span : ByteArray := prog_1_method_30_code
def yX11_span : MethodName := ⟨RX11, "span", "(IIZ)I"⟩
abbrev cX11_heapOf : ByteArray := prog_1_method_31_code
def yX11_heapOf : MethodName := ⟨RX11, "heapOf", "(II)I"⟩
abbrev cX11_beaterOf : ByteArray := prog_1_method_32_code
def yX11_beaterOf : MethodName := ⟨RX11, "beaterOf", "(II)I"⟩
abbrev cX11_vatOf : ByteArray := prog_1_method_33_code
def yX11_vatOf : MethodName := ⟨RX11, "vatOf", "(II)I"⟩
abbrev cX11_postOf : ByteArray := prog_1_method_34_code
def yX11_postOf : MethodName := ⟨RX11, "postOf", "(II)I"⟩
abbrev cX11_orderOf : ByteArray := prog_1_method_35_code
def yX11_orderOf : MethodName := ⟨RX11, "orderOf", "(II)I"⟩
abbrev cX11_sheets : ByteArray := prog_1_method_36_code
def yX11_sheets : MethodName := ⟨RX11, "sheets", "(II)I"⟩
abbrev cX11_count : ByteArray := prog_1_method_37_code
def yX11_count : MethodName := ⟨RX11, "count", "(I)I"⟩
abbrev cX11_refuse : ByteArray := prog_1_method_38_code
def yX11_refuse : MethodName := ⟨RX11, "refuse", "(I)I"⟩
abbrev cX11_sizePost : ByteArray := prog_1_method_39_code
def yX11_sizePost : MethodName := ⟨RX11, "sizePost", "(I)I"⟩
abbrev cX11_planRefusal : ByteArray := prog_1_method_40_code
def yX11_planRefusal : MethodName := ⟨RX11, "planRefusal", "(I)I"⟩
abbrev cX11_readOld : ByteArray := prog_1_method_41_code
def yX11_readOld : MethodName := ⟨RX11, "readOld", "(IIII)I"⟩
abbrev cX11_isMould : ByteArray := prog_1_method_42_code
def yX11_isMould : MethodName := ⟨RX11, "isMould", "(I)Z"⟩
abbrev cX11_isNumber : ByteArray := prog_1_method_43_code
def yX11_isNumber : MethodName := ⟨RX11, "isNumber", "(II)Z"⟩
abbrev cX11_isWeight : ByteArray := prog_1_method_44_code
def yX11_isWeight : MethodName := ⟨RX11, "isWeight", "(I)Z"⟩
abbrev cX11_shelfOf : ByteArray := prog_1_method_45_code
def yX11_shelfOf : MethodName := ⟨RX11, "shelfOf", "(II)I"⟩
abbrev cX11_copyRow : ByteArray := prog_1_method_46_code
def yX11_copyRow : MethodName := ⟨RX11, "copyRow", "([I[I)V"⟩
def RX12 : String := "PaperMillModel"
def TX12 : u_T := fun k => match k with
  | 0 => ("PaperMillModel", "refusals", "[I", true)
  | 1 => ("PaperMillModel", "days", "[I", true)
  | 2 => ("PaperMillModel", "ripe", "[I", true)
  | 3 => ("PaperMillModel", "spoil", "[I", true)
  | 4 => ("PaperMillModel", "beat", "[I", true)
  | 5 => ("PaperMillModel", "store", "[I", true)
  | 6 => ("PaperMillModel", "duties", "[I", true)
  | 7 => ("PaperMillModel", "sheets", "[I", true)
  | 8 => ("PaperMillModel", "heapKind", "[I", true)
  | 9 => ("PaperMillModel", "heapAt", "[I", true)
  | 10 => ("PaperMillModel", "weight", "[I", true)
  | 11 => ("PaperMillModel", "wires", "[I", true)
  | 12 => ("PaperMillModel", "counts", "[I", true)
  | 13 => ("PaperMillModel", "vatPair", "[I", true)
  | 14 => ("PaperMillModel", "vatKind", "[I", true)
  | 15 => ("PaperMillModel", "heaps", "I", false)
  | 16 => ("PaperMillModel", "pairs", "I", false)
  | 17 => ("PaperMillModel", "orders", "I", false)
  | 18 => ("PaperMillModel", "coins", "I", false)
  | 19 => ("PaperMillModel", "hides", "I", false)
  | 20 => ("PaperMillModel", "loftRoom", "I", false)
  | 21 => ("PaperMillModel", "orderKind", "[I", true)
  | 22 => ("PaperMillModel", "orderWeight", "[I", true)
  | 23 => ("PaperMillModel", "reams", "[I", true)
  | 24 => ("PaperMillModel", "due", "[I", true)
  | 25 => ("PaperMillModel", "price", "[I", true)
  | 26 => ("PaperMillModel", "filled", "[I", true)
  | 27 => ("PaperMillModel", "marks", "[I", true)
  | 28 => ("PaperMillModel", "open", "[I", true)
  | 29 => ("PaperMillModel", "old", "[I", true)
  | 30 => ("PaperMillModel", "now", "[I", true)
  | 31 => ("PaperMillModel", "kept", "[I", true)
  | 32 => ("PaperMillModel", "isTrial", "Z", false)
  | 33 => ("PaperMillModel", "line", "[I", true)
  | 34 => ("PaperMillModel", "bestSet", "I", false)
  | _ => ("PaperMillModel", "bestSum", "I", false)
def tyX12 : Nat → FieldType := fun k => match k with
  | 0 => .array .int
  | 1 => .array .int
  | 2 => .array .int
  | 3 => .array .int
  | 4 => .array .int
  | 5 => .array .int
  | 6 => .array .int
  | 7 => .array .int
  | 8 => .array .int
  | 9 => .array .int
  | 10 => .array .int
  | 11 => .array .int
  | 12 => .array .int
  | 13 => .array .int
  | 14 => .array .int
  | 15 => .int
  | 16 => .int
  | 17 => .int
  | 18 => .int
  | 19 => .int
  | 20 => .int
  | 21 => .array .int
  | 22 => .array .int
  | 23 => .array .int
  | 24 => .array .int
  | 25 => .array .int
  | 26 => .array .int
  | 27 => .array .int
  | 28 => .array .int
  | 29 => .array .int
  | 30 => .array .int
  | 31 => .array .int
  | 32 => .boolean
  | 33 => .array .int
  | 34 => .int
  | _ => .int
abbrev wsX120 : List Cond := u_ws RX12 TX12 36
theorem nmX12 : ∀ a, a < 36 → ∀ b, b < 36 → a ≠ b → (TX12 a).2.1 ≠ (TX12 b).2.1 := by decide +kernel
theorem tyX12_ok : ∀ k, k < 36 → parseFieldDescriptor (TX12 k).2.2.1 = some (tyX12 k) := by decide +kernel
abbrev cX12_init : ByteArray := prog_14_method_1_code
def yX12_init : MethodName := ⟨RX12, "<init>", "()V"⟩
abbrev cX12_refuse : ByteArray := prog_14_method_2_code
def yX12_refuse : MethodName := ⟨RX12, "refuse", "(I)I"⟩
abbrev cX12_isIn : ByteArray := prog_14_method_3_code
def yX12_isIn : MethodName := ⟨RX12, "isIn", "(II)Z"⟩
abbrev cX12_wrong : ByteArray := prog_14_method_4_code
def yX12_wrong : MethodName := ⟨RX12, "wrong", "(III)I"⟩
abbrev cX12_reckoned : ByteArray := prog_14_method_5_code
def yX12_reckoned : MethodName := ⟨RX12, "reckoned", "(II)I"⟩
abbrev cX12_day : ByteArray := prog_14_method_6_code
def yX12_day : MethodName := ⟨RX12, "day", "(III)I"⟩
abbrev cX12_dayOf : ByteArray := prog_14_method_7_code
def yX12_dayOf : MethodName := ⟨RX12, "dayOf", "(II)I"⟩
abbrev cX12_isKind : ByteArray := prog_14_method_8_code
def yX12_isKind : MethodName := ⟨RX12, "isKind", "(I)Z"⟩
abbrev cX12_kind : ByteArray := prog_14_method_9_code
def yX12_kind : MethodName := ⟨RX12, "kind", "(IIII)I"⟩
abbrev cX12_rags : ByteArray := prog_14_method_10_code
def yX12_rags : MethodName := ⟨RX12, "rags", "(II)I"⟩
abbrev cX12_heap : ByteArray := prog_14_method_11_code
def yX12_heap : MethodName := ⟨RX12, "heap", "(II)I"⟩
abbrev cX12_age : ByteArray := prog_14_method_12_code
def yX12_age : MethodName := ⟨RX12, "age", "(I)I"⟩
abbrev cX12_isRipe : ByteArray := prog_14_method_13_code
def yX12_isRipe : MethodName := ⟨RX12, "isRipe", "(I)Z"⟩
abbrev cX12_load : ByteArray := prog_14_method_14_code
def yX12_load : MethodName := ⟨RX12, "load", "(III)I"⟩
abbrev cX12_pair : ByteArray := prog_14_method_15_code
def yX12_pair : MethodName := ⟨RX12, "pair", "(I)I"⟩
abbrev cX12_isBegun : ByteArray := prog_14_method_16_code
def yX12_isBegun : MethodName := ⟨RX12, "isBegun", "(I)Z"⟩
abbrev cX12_wire : ByteArray := prog_14_method_17_code
def yX12_wire : MethodName := ⟨RX12, "wire", "(III)I"⟩
abbrev cX12_mouldOf : ByteArray := prog_14_method_18_code
def yX12_mouldOf : MethodName := ⟨RX12, "mouldOf", "(II)I"⟩
abbrev cX12_vat : ByteArray := prog_14_method_19_code
def yX12_vat : MethodName := ⟨RX12, "vat", "(II)I"⟩
abbrev cX12_furnish : ByteArray := prog_14_method_20_code
def yX12_furnish : MethodName := ⟨RX12, "furnish", "(II)I"⟩
abbrev cX12_loft : ByteArray := prog_14_method_21_code
def yX12_loft : MethodName := ⟨RX12, "loft", "(I)I"⟩
abbrev cX12_hides : ByteArray := prog_14_method_22_code
def yX12_hides : MethodName := ⟨RX12, "hides", "(I)I"⟩
abbrev cX12_post : ByteArray := prog_14_method_23_code
def yX12_post : MethodName := ⟨RX12, "post", "(II)I"⟩
abbrev cX12_put : ByteArray := prog_14_method_24_code
def yX12_put : MethodName := ⟨RX12, "put", "(III)V"⟩
abbrev cX12_sizes : ByteArray := prog_14_method_25_code
def yX12_sizes : MethodName := ⟨RX12, "sizes", "(I)I"⟩
abbrev cX12_size : ByteArray := prog_14_method_26_code
def yX12_size : MethodName := ⟨RX12, "size", "(I)I"⟩
abbrev cX12_sizeAll : ByteArray := prog_14_method_27_code
def yX12_sizeAll : MethodName := ⟨RX12, "sizeAll", "()I"⟩
abbrev cX12_isWeight : ByteArray := prog_14_method_28_code
def yX12_isWeight : MethodName := ⟨RX12, "isWeight", "(I)Z"⟩
abbrev cX12_duty : ByteArray := prog_14_method_29_code
def yX12_duty : MethodName := ⟨RX12, "duty", "(II)I"⟩
abbrev cX12_order : ByteArray := prog_14_method_30_code
def yX12_order : MethodName := ⟨RX12, "order", "(IIIII)I"⟩
abbrev cX12_today : ByteArray := prog_14_method_31_code
def yX12_today : MethodName := ⟨RX12, "today", "()I"⟩
abbrev cX12_fill : ByteArray := prog_14_method_32_code
def yX12_fill : MethodName := ⟨RX12, "fill", "(I)I"⟩
abbrev cX12_bests : ByteArray := prog_14_method_33_code
def yX12_bests : MethodName := ⟨RX12, "bests", "(I)I"⟩
abbrev cX12_best : ByteArray := prog_14_method_34_code
def yX12_best : MethodName := ⟨RX12, "best", "(I)I"⟩
abbrev cX12_bestWorth : ByteArray := prog_14_method_35_code
def yX12_bestWorth : MethodName := ⟨RX12, "bestWorth", "(I)I"⟩
abbrev cX12_wanders : ByteArray := prog_14_method_36_code
def yX12_wanders : MethodName := ⟨RX12, "wanders", "(I)V"⟩
abbrev cX12_sheet : ByteArray := prog_14_method_37_code
def yX12_sheet : MethodName := ⟨RX12, "sheet", "(I)V"⟩
abbrev cX12_hasPulp : ByteArray := prog_14_method_38_code
def yX12_hasPulp : MethodName := ⟨RX12, "hasPulp", "(I)Z"⟩
abbrev cX12_works : ByteArray := prog_14_method_39_code
def yX12_works : MethodName := ⟨RX12, "works", "(I)V"⟩
abbrev cX12_inState : ByteArray := prog_14_method_40_code
def yX12_inState : MethodName := ⟨RX12, "inState", "(I)I"⟩
abbrev cX12_hour : ByteArray := prog_14_method_41_code
def yX12_hour : MethodName := ⟨RX12, "hour", "()V"⟩
abbrev cX12_hours : ByteArray := prog_14_method_42_code
def yX12_hours : MethodName := ⟨RX12, "hours", "(I)I"⟩
abbrev cX12_begins : ByteArray := prog_14_method_43_code
def yX12_begins : MethodName := ⟨RX12, "begins", "()V"⟩
abbrev cX12_ends : ByteArray := prog_14_method_44_code
def yX12_ends : MethodName := ⟨RX12, "ends", "()V"⟩
abbrev cX12_dried : ByteArray := prog_14_method_45_code
def yX12_dried : MethodName := ⟨RX12, "dried", "()I"⟩
abbrev cX12_foretell : ByteArray := prog_14_method_46_code
def yX12_foretell : MethodName := ⟨RX12, "foretell", "(II)I"⟩
abbrev cX12_when : ByteArray := prog_14_method_47_code
def yX12_when : MethodName := ⟨RX12, "when", "(I)I"⟩
abbrev cX12_mark : ByteArray := prog_14_method_48_code
def yX12_mark : MethodName := ⟨RX12, "mark", "(III)I"⟩
abbrev cX12_olds : ByteArray := prog_14_method_49_code
def yX12_olds : MethodName := ⟨RX12, "olds", "(IIII)I"⟩
abbrev cX12_oldA : ByteArray := prog_14_method_50_code
def yX12_oldA : MethodName := ⟨RX12, "oldA", "(III)I"⟩
abbrev cX12_oldB : ByteArray := prog_14_method_51_code
def yX12_oldB : MethodName := ⟨RX12, "oldB", "(III)I"⟩
abbrev cX12_far : ByteArray := prog_14_method_52_code
def yX12_far : MethodName := ⟨RX12, "far", "(II)I"⟩
abbrev cX12_isBy : ByteArray := prog_14_method_53_code
def yX12_isBy : MethodName := ⟨RX12, "isBy", "(II)Z"⟩
abbrev cX12_lies : ByteArray := prog_14_method_54_code
def yX12_lies : MethodName := ⟨RX12, "lies", "(I)I"⟩
abbrev cX12_mouldOfSheet : ByteArray := prog_14_method_55_code
def yX12_mouldOfSheet : MethodName := ⟨RX12, "mouldOfSheet", "(I)I"⟩
abbrev cX12_nearest : ByteArray := prog_14_method_56_code
def yX12_nearest : MethodName := ⟨RX12, "nearest", "(I)I"⟩
abbrev cX12_span : ByteArray := prog_14_method_57_code
def yX12_span : MethodName := ⟨RX12, "span", "(IIZ)I"⟩
abbrev cX12_heapOf : ByteArray := prog_14_method_58_code
def yX12_heapOf : MethodName := ⟨RX12, "heapOf", "(II)I"⟩
abbrev cX12_beaterOf : ByteArray := prog_14_method_59_code
def yX12_beaterOf : MethodName := ⟨RX12, "beaterOf", "(II)I"⟩
abbrev cX12_vatOf : ByteArray := prog_14_method_60_code
def yX12_vatOf : MethodName := ⟨RX12, "vatOf", "(II)I"⟩
abbrev cX12_postOf : ByteArray := prog_14_method_61_code
def yX12_postOf : MethodName := ⟨RX12, "postOf", "(II)I"⟩
abbrev cX12_orderOf : ByteArray := prog_14_method_62_code
def yX12_orderOf : MethodName := ⟨RX12, "orderOf", "(II)I"⟩
abbrev cX12_sheets : ByteArray := prog_14_method_63_code
def yX12_sheets : MethodName := ⟨RX12, "sheets", "(II)I"⟩
abbrev cX12_count : ByteArray := prog_14_method_64_code
def yX12_count : MethodName := ⟨RX12, "count", "(I)I"⟩
def RJ6 : String := "java/lang/Integer"
abbrev cJ6_compare_7cf53 : ByteArray := prog_15_method_40_code
def yJ6_compare_7cf53 : MethodName := ⟨RJ6, "compare", "(II)I"⟩
abbrev cJ6_bitCount_0f7a4 : ByteArray := prog_15_method_49_code
def yJ6_bitCount_0f7a4 : MethodName := ⟨RJ6, "bitCount", "(I)I"⟩
def RJ9 : String := "java/lang/Math"
abbrev cJ9_abs_0f7a4 : ByteArray := prog_16_method_59_code
def yJ9_abs_0f7a4 : MethodName := ⟨RJ9, "abs", "(I)I"⟩
abbrev cJ9_max_7cf53 : ByteArray := prog_16_method_65_code
def yJ9_max_7cf53 : MethodName := ⟨RJ9, "max", "(II)I"⟩
abbrev cJ9_min_7cf53 : ByteArray := prog_16_method_69_code
def yJ9_min_7cf53 : MethodName := ⟨RJ9, "min", "(II)I"⟩
def RJ10 : String := "java/lang/System"
def RJ7 : String := "java/util/Arrays"
abbrev cJ7_fill_53178 : ByteArray := prog_18_method_103_code
def yJ7_fill_53178 : MethodName := ⟨RJ7, "fill", "([II)V"⟩
def RL : String := "PaperMillLaw"
abbrev cL_law : ByteArray := code
def yL_law : MethodName := ⟨RL, "law", "([I)Z"⟩
abbrev vwCl : List vw_C := [(RX0, TX0, 4), (RX1, TX1, 7), (RX2, TX2, 2), (RX3, TX3, 4), (RX4, TX4, 5), (RX5, TX5, 10), (RX6, TX6, 12), (RX7, TX7, 4), (RX8, TX8, 9), (RX9, TX9, 2), (RX10, TX10, 8), (RX11, TX11, 11), (RX12, TX12, 36)]
end
section
/-! ===== the abstract machine: numbers as Int, cells by their numbers, a memory of numbers ===== -/
-- values: a number, a long, a reference (or null), one of the static arrays
abbrev pm_V : Type := Int ⊕ (Int ⊕ (Option Nat ⊕ Nat))
abbrev pv_i (x : Int) : pm_V := .inl x
abbrev pv_l (x : Int) : pm_V := .inr (.inl x)
abbrev pv_o (r : Option Nat) : pm_V := .inr (.inr (.inl r))
abbrev pv_r (r : Nat) : pm_V := .inr (.inr (.inl (some r)))
abbrev pv_s (j : Nat) : pm_V := .inr (.inr (.inr j))
def pm_cv (ad sd : Nat → Nat) : pm_V → Value
  | .inl x => .int (Int32.ofInt x)
  | .inr (.inl x) => .long (Int64.ofInt x)
  | .inr (.inr (.inl none)) => .null
  | .inr (.inr (.inl (some r))) => .ref (ad r)
  | .inr (.inr (.inr j)) => .ref (sd j)
def pm_ct : pm_V → Nat
  | .inr (.inl _) => 2
  | _ => 1
theorem pm_ct_eq (ad sd : Nat → Nat) (v : pm_V) : (pm_cv ad sd v).category = pm_ct v := by
  rcases v with x | x | (_ | r) | j <;> rfl
-- shapes of cells: an int array, an array of rows, an object (none: a number; some: a reference or null)
abbrev pm_F : Type := Option (Option Nat)
abbrev pm_S : Type := Nat ⊕ (List Nat ⊕ (Nat × List pm_F))
abbrev pm_M : Type := Nat → Nat → Int
abbrev ps_a (n : Nat) : pm_S := .inl n
abbrev ps_q (rs : List Nat) : pm_S := .inr (.inl rs)
abbrev ps_o (ci : Nat) (fs : List pm_F) : pm_S := .inr (.inr (ci, fs))
abbrev pm_K : Type := va_G × ClassId × ClassId × (Nat → Nat)
def pm_fld (ad : Nat → Nat) (m : Nat → Int) (k : Nat) (f : pm_F) : Value := match f with
  | none => .int (Int32.ofInt (m k))
  | some none => .null
  | some (some r) => .ref (ad r)
def pm_cell (k : pm_K) (ad : Nat → Nat) (m : Nat → Int) (S : pm_S) : va_E := match S with
  | .inl n => .inl (k.2.1, n, .inl (fun i => Int32.ofInt (m i)))
  | .inr (.inl rs) => .inl (k.2.2.1, rs.length, .inr (.inr (.inr (.inr (fun i => (rs[i]?).map ad)))))
  | .inr (.inr (ci, fs)) => .inr (ci, fs.mapIdx (fun j f => pm_fld ad m j f))
def pm_W (k : pm_K) (ad : Nat → Nat) (lay : List pm_S) (σ : pm_M) : va_W := lay.mapIdx (fun c S => (ad c, pm_cell k ad (σ c) S))
def pm_sz (S : pm_S) : Nat := match S with
  | .inl n => n
  | .inr (.inl rs) => rs.length
  | .inr (.inr (_, fs)) => fs.length
def pm_sl (lay : List pm_S) : Nat := (lay.map pm_sz).sum
theorem pm_W_at {k : pm_K} {ad : Nat → Nat} {lay : List pm_S} {σ : pm_M} {c : Nat} {S : pm_S} (h : lay[c]? = some S) : (pm_W k ad lay σ)[c]? = some (ad c, pm_cell k ad (σ c) S) := by
  unfold pm_W
  rw [List.getElem?_mapIdx, h]
  rfl
-- one place of the memory written
def pm_up (σ : pm_M) (c j : Nat) (v : Int) : pm_M := fun c' j' => if c' = c ∧ j' = j then v else σ c' j'
theorem pm_W_up {k : pm_K} {ad : Nat → Nat} {lay : List pm_S} {σ : pm_M} {c j : Nat} {v : Int} {S : pm_S} (h : lay[c]? = some S) :
    pm_W k ad lay (pm_up σ c j v) = (pm_W k ad lay σ).set c (ad c, pm_cell k ad (pm_up σ c j v c) S) := by
  apply List.ext_getElem?
  intro i
  unfold pm_W
  rw [List.getElem?_mapIdx]
  by_cases hi : i = c
  · subst hi
    have hlt : i < lay.length := (List.getElem?_eq_some_iff.mp h).1
    rw [List.getElem?_set_self (by rw [List.length_mapIdx]; exact hlt), h]
    rfl
  · rw [List.getElem?_set_ne (Ne.symm hi), List.getElem?_mapIdx]
    have e : pm_up σ c j v i = σ i := by
      funext j'
      unfold pm_up
      rw [if_neg (fun q => hi q.1)]
    rw [e]
/-! numbers -/
def wr (x : Int) : Int := (Int32.ofInt x).toInt
def wl (x : Int) : Int := (Int64.ofInt x).toInt
theorem wr_eq {x : Int} (h1 : -2147483648 ≤ x) (h2 : x < 2147483648) : wr x = x := by
  unfold wr
  rw [Int32.toInt_ofInt]
  have e : (Int32.size : Int) = 4294967296 := rfl
  exact Int.bmod_eq_of_le (by omega) (by omega)
theorem wr_rng (x : Int) : -2147483648 ≤ wr x ∧ wr x < 2147483648 := by
  unfold wr
  exact ⟨Int32.le_toInt _, Int32.toInt_lt _⟩
theorem wr_wr (x : Int) : wr (wr x) = wr x := wr_eq (wr_rng x).1 (wr_rng x).2
theorem wr_to (x : Int32) : wr x.toInt = x.toInt := wr_eq (Int32.le_toInt x) (Int32.toInt_lt x)
theorem pm_ofw (x : Int) : Int32.ofInt (wr x) = Int32.ofInt x := by
  unfold wr
  exact Int32.ofInt_toInt _
theorem wl_eq {x : Int} (h1 : -9223372036854775808 ≤ x) (h2 : x < 9223372036854775808) : wl x = x := by
  unfold wl
  rw [Int64.toInt_ofInt]
  have e : (Int64.size : Int) = 18446744073709551616 := rfl
  exact Int.bmod_eq_of_le (by omega) (by omega)
theorem pm_lt (x y : Int) : Int32.ofInt x < Int32.ofInt y ↔ wr x < wr y := Int32.lt_iff_toInt_lt
theorem pm_le (x y : Int) : Int32.ofInt x ≤ Int32.ofInt y ↔ wr x ≤ wr y := Int32.le_iff_toInt_le
theorem pm_eq (x y : Int) : Int32.ofInt x = Int32.ofInt y ↔ wr x = wr y := ⟨fun h => congrArg Int32.toInt h, fun h => Int32.toInt_inj.mp h⟩
theorem pm_add (x y : Int) : Int32.ofInt x + Int32.ofInt y = Int32.ofInt (x + y) := (Int32.ofInt_add x y).symm
theorem pm_sub (x y : Int) : Int32.ofInt x - Int32.ofInt y = Int32.ofInt (x - y) := (Int32.ofInt_sub x y).symm
theorem pm_mul (x y : Int) : Int32.ofInt x * Int32.ofInt y = Int32.ofInt (x * y) := (Int32.ofInt_mul x y).symm
theorem pm_neg (x : Int) : - Int32.ofInt x = Int32.ofInt (-x) := (Int32.ofInt_neg x).symm
theorem pm_in {x : Int} {n : Nat} (h1 : 0 ≤ wr x) (h2 : wr x < n) : vp_in (Int32.ofInt x) n := vp_in_iff.mpr ⟨h1, h2⟩
theorem pm_cl (x : Int) : (Int32.ofInt x).toNatClampNeg = (wr x).toNat := rfl
end
section
theorem dJ6_compare_7cf53_0 : decode cJ6_compare_7cf53 0 = .ok (.iload_n 0, 1) := by decide +kernel
theorem dJ6_compare_7cf53_1 : decode cJ6_compare_7cf53 1 = .ok (.iload_n 1, 1) := by decide +kernel
theorem dJ6_compare_7cf53_2 : decode cJ6_compare_7cf53 2 = .ok (.if_icmp .ge 7, 3) := by decide +kernel
theorem dJ6_compare_7cf53_5 : decode cJ6_compare_7cf53 5 = .ok (.iconst (-1), 1) := by decide +kernel
theorem dJ6_compare_7cf53_6 : decode cJ6_compare_7cf53 6 = .ok (.goto 13, 3) := by decide +kernel
theorem dJ6_compare_7cf53_9 : decode cJ6_compare_7cf53 9 = .ok (.iload_n 0, 1) := by decide +kernel
theorem dJ6_compare_7cf53_10 : decode cJ6_compare_7cf53 10 = .ok (.iload_n 1, 1) := by decide +kernel
theorem dJ6_compare_7cf53_11 : decode cJ6_compare_7cf53 11 = .ok (.if_icmp .ne 7, 3) := by decide +kernel
theorem dJ6_compare_7cf53_14 : decode cJ6_compare_7cf53 14 = .ok (.iconst 0, 1) := by decide +kernel
theorem dJ6_compare_7cf53_15 : decode cJ6_compare_7cf53 15 = .ok (.goto 4, 3) := by decide +kernel
theorem dJ6_compare_7cf53_18 : decode cJ6_compare_7cf53 18 = .ok (.iconst 1, 1) := by decide +kernel
theorem dJ6_compare_7cf53_19 : decode cJ6_compare_7cf53 19 = .ok (.ireturn, 1) := by decide +kernel
theorem dJ6_bitCount_0f7a4_0 : decode cJ6_bitCount_0f7a4 0 = .ok (.iload_n 0, 1) := by decide +kernel
theorem dJ6_bitCount_0f7a4_1 : decode cJ6_bitCount_0f7a4 1 = .ok (.iload_n 0, 1) := by decide +kernel
theorem dJ6_bitCount_0f7a4_2 : decode cJ6_bitCount_0f7a4 2 = .ok (.iconst 1, 1) := by decide +kernel
theorem dJ6_bitCount_0f7a4_3 : decode cJ6_bitCount_0f7a4 3 = .ok (.iushr, 1) := by decide +kernel
theorem dJ6_bitCount_0f7a4_4 : decode cJ6_bitCount_0f7a4 4 = .ok (.ldc_w 265, 3) := by decide +kernel
theorem dJ6_bitCount_0f7a4_7 : decode cJ6_bitCount_0f7a4 7 = .ok (.iand, 1) := by decide +kernel
theorem dJ6_bitCount_0f7a4_8 : decode cJ6_bitCount_0f7a4 8 = .ok (.isub, 1) := by decide +kernel
theorem dJ6_bitCount_0f7a4_9 : decode cJ6_bitCount_0f7a4 9 = .ok (.istore_n 0, 1) := by decide +kernel
theorem dJ6_bitCount_0f7a4_10 : decode cJ6_bitCount_0f7a4 10 = .ok (.iload_n 0, 1) := by decide +kernel
theorem dJ6_bitCount_0f7a4_11 : decode cJ6_bitCount_0f7a4 11 = .ok (.ldc_w 266, 3) := by decide +kernel
theorem dJ6_bitCount_0f7a4_14 : decode cJ6_bitCount_0f7a4 14 = .ok (.iand, 1) := by decide +kernel
theorem dJ6_bitCount_0f7a4_15 : decode cJ6_bitCount_0f7a4 15 = .ok (.iload_n 0, 1) := by decide +kernel
theorem dJ6_bitCount_0f7a4_16 : decode cJ6_bitCount_0f7a4 16 = .ok (.iconst 2, 1) := by decide +kernel
theorem dJ6_bitCount_0f7a4_17 : decode cJ6_bitCount_0f7a4 17 = .ok (.iushr, 1) := by decide +kernel
theorem dJ6_bitCount_0f7a4_18 : decode cJ6_bitCount_0f7a4 18 = .ok (.ldc_w 266, 3) := by decide +kernel
theorem dJ6_bitCount_0f7a4_21 : decode cJ6_bitCount_0f7a4 21 = .ok (.iand, 1) := by decide +kernel
theorem dJ6_bitCount_0f7a4_22 : decode cJ6_bitCount_0f7a4 22 = .ok (.iadd, 1) := by decide +kernel
theorem dJ6_bitCount_0f7a4_23 : decode cJ6_bitCount_0f7a4 23 = .ok (.istore_n 0, 1) := by decide +kernel
theorem dJ6_bitCount_0f7a4_24 : decode cJ6_bitCount_0f7a4 24 = .ok (.iload_n 0, 1) := by decide +kernel
theorem dJ6_bitCount_0f7a4_25 : decode cJ6_bitCount_0f7a4 25 = .ok (.iload_n 0, 1) := by decide +kernel
theorem dJ6_bitCount_0f7a4_26 : decode cJ6_bitCount_0f7a4 26 = .ok (.iconst 4, 1) := by decide +kernel
theorem dJ6_bitCount_0f7a4_27 : decode cJ6_bitCount_0f7a4 27 = .ok (.iushr, 1) := by decide +kernel
theorem dJ6_bitCount_0f7a4_28 : decode cJ6_bitCount_0f7a4 28 = .ok (.iadd, 1) := by decide +kernel
theorem dJ6_bitCount_0f7a4_29 : decode cJ6_bitCount_0f7a4 29 = .ok (.ldc_w 267, 3) := by decide +kernel
theorem dJ6_bitCount_0f7a4_32 : decode cJ6_bitCount_0f7a4 32 = .ok (.iand, 1) := by decide +kernel
theorem dJ6_bitCount_0f7a4_33 : decode cJ6_bitCount_0f7a4 33 = .ok (.istore_n 0, 1) := by decide +kernel
theorem dJ6_bitCount_0f7a4_34 : decode cJ6_bitCount_0f7a4 34 = .ok (.iload_n 0, 1) := by decide +kernel
theorem dJ6_bitCount_0f7a4_35 : decode cJ6_bitCount_0f7a4 35 = .ok (.iload_n 0, 1) := by decide +kernel
theorem dJ6_bitCount_0f7a4_36 : decode cJ6_bitCount_0f7a4 36 = .ok (.bipush 8, 2) := by decide +kernel
theorem dJ6_bitCount_0f7a4_38 : decode cJ6_bitCount_0f7a4 38 = .ok (.iushr, 1) := by decide +kernel
theorem dJ6_bitCount_0f7a4_39 : decode cJ6_bitCount_0f7a4 39 = .ok (.iadd, 1) := by decide +kernel
theorem dJ6_bitCount_0f7a4_40 : decode cJ6_bitCount_0f7a4 40 = .ok (.istore_n 0, 1) := by decide +kernel
theorem dJ6_bitCount_0f7a4_41 : decode cJ6_bitCount_0f7a4 41 = .ok (.iload_n 0, 1) := by decide +kernel
theorem dJ6_bitCount_0f7a4_42 : decode cJ6_bitCount_0f7a4 42 = .ok (.iload_n 0, 1) := by decide +kernel
theorem dJ6_bitCount_0f7a4_43 : decode cJ6_bitCount_0f7a4 43 = .ok (.bipush 16, 2) := by decide +kernel
theorem dJ6_bitCount_0f7a4_45 : decode cJ6_bitCount_0f7a4 45 = .ok (.iushr, 1) := by decide +kernel
theorem dJ6_bitCount_0f7a4_46 : decode cJ6_bitCount_0f7a4 46 = .ok (.iadd, 1) := by decide +kernel
theorem dJ6_bitCount_0f7a4_47 : decode cJ6_bitCount_0f7a4 47 = .ok (.istore_n 0, 1) := by decide +kernel
theorem dJ6_bitCount_0f7a4_48 : decode cJ6_bitCount_0f7a4 48 = .ok (.iload_n 0, 1) := by decide +kernel
theorem dJ6_bitCount_0f7a4_49 : decode cJ6_bitCount_0f7a4 49 = .ok (.bipush 63, 2) := by decide +kernel
theorem dJ6_bitCount_0f7a4_51 : decode cJ6_bitCount_0f7a4 51 = .ok (.iand, 1) := by decide +kernel
theorem dJ6_bitCount_0f7a4_52 : decode cJ6_bitCount_0f7a4 52 = .ok (.ireturn, 1) := by decide +kernel
theorem dJ7_fill_53178_0 : decode cJ7_fill_53178 0 = .ok (.iconst 0, 1) := by decide +kernel
theorem dJ7_fill_53178_1 : decode cJ7_fill_53178 1 = .ok (.istore_n 2, 1) := by decide +kernel
theorem dJ7_fill_53178_2 : decode cJ7_fill_53178 2 = .ok (.aload_n 0, 1) := by decide +kernel
theorem dJ7_fill_53178_3 : decode cJ7_fill_53178 3 = .ok (.arraylength, 1) := by decide +kernel
theorem dJ7_fill_53178_4 : decode cJ7_fill_53178 4 = .ok (.istore_n 3, 1) := by decide +kernel
theorem dJ7_fill_53178_5 : decode cJ7_fill_53178 5 = .ok (.iload_n 2, 1) := by decide +kernel
theorem dJ7_fill_53178_6 : decode cJ7_fill_53178 6 = .ok (.iload_n 3, 1) := by decide +kernel
theorem dJ7_fill_53178_7 : decode cJ7_fill_53178 7 = .ok (.if_icmp .ge 13, 3) := by decide +kernel
theorem dJ7_fill_53178_10 : decode cJ7_fill_53178 10 = .ok (.aload_n 0, 1) := by decide +kernel
theorem dJ7_fill_53178_11 : decode cJ7_fill_53178 11 = .ok (.iload_n 2, 1) := by decide +kernel
theorem dJ7_fill_53178_12 : decode cJ7_fill_53178 12 = .ok (.iload_n 1, 1) := by decide +kernel
theorem dJ7_fill_53178_13 : decode cJ7_fill_53178 13 = .ok (.iastore, 1) := by decide +kernel
theorem dJ7_fill_53178_14 : decode cJ7_fill_53178 14 = .ok (.iinc 2 1, 3) := by decide +kernel
theorem dJ7_fill_53178_17 : decode cJ7_fill_53178 17 = .ok (.goto (-12), 3) := by decide +kernel
theorem dJ7_fill_53178_20 : decode cJ7_fill_53178 20 = .ok (.return_, 1) := by decide +kernel
theorem dJ9_abs_0f7a4_0 : decode cJ9_abs_0f7a4 0 = .ok (.iload_n 0, 1) := by decide +kernel
theorem dJ9_abs_0f7a4_1 : decode cJ9_abs_0f7a4 1 = .ok (.ifCond .ge 8, 3) := by decide +kernel
theorem dJ9_abs_0f7a4_4 : decode cJ9_abs_0f7a4 4 = .ok (.iload_n 0, 1) := by decide +kernel
theorem dJ9_abs_0f7a4_5 : decode cJ9_abs_0f7a4 5 = .ok (.ineg, 1) := by decide +kernel
theorem dJ9_abs_0f7a4_6 : decode cJ9_abs_0f7a4 6 = .ok (.goto 4, 3) := by decide +kernel
theorem dJ9_abs_0f7a4_9 : decode cJ9_abs_0f7a4 9 = .ok (.iload_n 0, 1) := by decide +kernel
theorem dJ9_abs_0f7a4_10 : decode cJ9_abs_0f7a4 10 = .ok (.ireturn, 1) := by decide +kernel
theorem dJ9_max_7cf53_0 : decode cJ9_max_7cf53 0 = .ok (.iload_n 0, 1) := by decide +kernel
theorem dJ9_max_7cf53_1 : decode cJ9_max_7cf53 1 = .ok (.iload_n 1, 1) := by decide +kernel
theorem dJ9_max_7cf53_2 : decode cJ9_max_7cf53 2 = .ok (.if_icmp .lt 7, 3) := by decide +kernel
theorem dJ9_max_7cf53_5 : decode cJ9_max_7cf53 5 = .ok (.iload_n 0, 1) := by decide +kernel
theorem dJ9_max_7cf53_6 : decode cJ9_max_7cf53 6 = .ok (.goto 4, 3) := by decide +kernel
theorem dJ9_max_7cf53_9 : decode cJ9_max_7cf53 9 = .ok (.iload_n 1, 1) := by decide +kernel
theorem dJ9_max_7cf53_10 : decode cJ9_max_7cf53 10 = .ok (.ireturn, 1) := by decide +kernel
theorem dJ9_min_7cf53_0 : decode cJ9_min_7cf53 0 = .ok (.iload_n 0, 1) := by decide +kernel
theorem dJ9_min_7cf53_1 : decode cJ9_min_7cf53 1 = .ok (.iload_n 1, 1) := by decide +kernel
theorem dJ9_min_7cf53_2 : decode cJ9_min_7cf53 2 = .ok (.if_icmp .gt 7, 3) := by decide +kernel
theorem dJ9_min_7cf53_5 : decode cJ9_min_7cf53 5 = .ok (.iload_n 0, 1) := by decide +kernel
theorem dJ9_min_7cf53_6 : decode cJ9_min_7cf53 6 = .ok (.goto 4, 3) := by decide +kernel
theorem dJ9_min_7cf53_9 : decode cJ9_min_7cf53 9 = .ok (.iload_n 1, 1) := by decide +kernel
theorem dJ9_min_7cf53_10 : decode cJ9_min_7cf53 10 = .ok (.ireturn, 1) := by decide +kernel
theorem dL_law_0 : decode cL_law 0 = .ok (.new 7, 3) := by decide +kernel
theorem dL_law_3 : decode cL_law 3 = .ok (.dup, 1) := by decide +kernel
theorem dL_law_4 : decode cL_law 4 = .ok (.invokespecial 9, 3) := by decide +kernel
theorem dL_law_7 : decode cL_law 7 = .ok (.astore_n 1, 1) := by decide +kernel
theorem dL_law_8 : decode cL_law 8 = .ok (.new 10, 3) := by decide +kernel
theorem dL_law_11 : decode cL_law 11 = .ok (.dup, 1) := by decide +kernel
theorem dL_law_12 : decode cL_law 12 = .ok (.invokespecial 12, 3) := by decide +kernel
theorem dL_law_15 : decode cL_law 15 = .ok (.astore_n 2, 1) := by decide +kernel
theorem dL_law_16 : decode cL_law 16 = .ok (.iconst 0, 1) := by decide +kernel
theorem dL_law_17 : decode cL_law 17 = .ok (.istore_n 3, 1) := by decide +kernel
theorem dL_law_18 : decode cL_law 18 = .ok (.iload_n 3, 1) := by decide +kernel
theorem dL_law_19 : decode cL_law 19 = .ok (.aload_n 0, 1) := by decide +kernel
theorem dL_law_20 : decode cL_law 20 = .ok (.arraylength, 1) := by decide +kernel
theorem dL_law_21 : decode cL_law 21 = .ok (.bipush 6, 2) := by decide +kernel
theorem dL_law_23 : decode cL_law 23 = .ok (.isub, 1) := by decide +kernel
theorem dL_law_24 : decode cL_law 24 = .ok (.if_icmp .gt 1358, 3) := by decide +kernel
theorem dL_law_27 : decode cL_law 27 = .ok (.aload_n 0, 1) := by decide +kernel
theorem dL_law_28 : decode cL_law 28 = .ok (.iload_n 3, 1) := by decide +kernel
theorem dL_law_29 : decode cL_law 29 = .ok (.iaload, 1) := by decide +kernel
theorem dL_law_30 : decode cL_law 30 = .ok (.bipush 63, 2) := by decide +kernel
theorem dL_law_32 : decode cL_law 32 = .ok (.iand, 1) := by decide +kernel
theorem dL_law_33 : decode cL_law 33 = .ok (.tableswitch 1343 0 35 #[159, 202, 235, 288, 321, 354, 397, 420, 463, 496, 529, 562, 585, 608, 631, 644, 677, 740, 763, 786, 809, 832, 865, 888, 931, 974, 1017, 1040, 1063, 1122, 1155, 1188, 1221, 1254, 1287, 1320], 159) := by decide +kernel
theorem dL_law_192 : decode cL_law 192 = .ok (.aload_n 1, 1) := by decide +kernel
theorem dL_law_193 : decode cL_law 193 = .ok (.aload_n 0, 1) := by decide +kernel
theorem dL_law_194 : decode cL_law 194 = .ok (.iload_n 3, 1) := by decide +kernel
theorem dL_law_195 : decode cL_law 195 = .ok (.iconst 1, 1) := by decide +kernel
theorem dL_law_196 : decode cL_law 196 = .ok (.iadd, 1) := by decide +kernel
theorem dL_law_197 : decode cL_law 197 = .ok (.iaload, 1) := by decide +kernel
theorem dL_law_198 : decode cL_law 198 = .ok (.aload_n 0, 1) := by decide +kernel
theorem dL_law_199 : decode cL_law 199 = .ok (.iload_n 3, 1) := by decide +kernel
theorem dL_law_200 : decode cL_law 200 = .ok (.iconst 2, 1) := by decide +kernel
theorem dL_law_201 : decode cL_law 201 = .ok (.iadd, 1) := by decide +kernel
theorem dL_law_202 : decode cL_law 202 = .ok (.iaload, 1) := by decide +kernel
theorem dL_law_203 : decode cL_law 203 = .ok (.aload_n 0, 1) := by decide +kernel
theorem dL_law_204 : decode cL_law 204 = .ok (.iload_n 3, 1) := by decide +kernel
theorem dL_law_205 : decode cL_law 205 = .ok (.iconst 3, 1) := by decide +kernel
theorem dL_law_206 : decode cL_law 206 = .ok (.iadd, 1) := by decide +kernel
theorem dL_law_207 : decode cL_law 207 = .ok (.iaload, 1) := by decide +kernel
theorem dL_law_208 : decode cL_law 208 = .ok (.invokevirtual 13, 3) := by decide +kernel
theorem dL_law_211 : decode cL_law 211 = .ok (.aload_n 2, 1) := by decide +kernel
theorem dL_law_212 : decode cL_law 212 = .ok (.aload_n 0, 1) := by decide +kernel
theorem dL_law_213 : decode cL_law 213 = .ok (.iload_n 3, 1) := by decide +kernel
theorem dL_law_214 : decode cL_law 214 = .ok (.iconst 1, 1) := by decide +kernel
theorem dL_law_215 : decode cL_law 215 = .ok (.iadd, 1) := by decide +kernel
theorem dL_law_216 : decode cL_law 216 = .ok (.iaload, 1) := by decide +kernel
theorem dL_law_217 : decode cL_law 217 = .ok (.aload_n 0, 1) := by decide +kernel
theorem dL_law_218 : decode cL_law 218 = .ok (.iload_n 3, 1) := by decide +kernel
theorem dL_law_219 : decode cL_law 219 = .ok (.iconst 2, 1) := by decide +kernel
theorem dL_law_220 : decode cL_law 220 = .ok (.iadd, 1) := by decide +kernel
theorem dL_law_221 : decode cL_law 221 = .ok (.iaload, 1) := by decide +kernel
theorem dL_law_222 : decode cL_law 222 = .ok (.aload_n 0, 1) := by decide +kernel
theorem dL_law_223 : decode cL_law 223 = .ok (.iload_n 3, 1) := by decide +kernel
theorem dL_law_224 : decode cL_law 224 = .ok (.iconst 3, 1) := by decide +kernel
theorem dL_law_225 : decode cL_law 225 = .ok (.iadd, 1) := by decide +kernel
theorem dL_law_226 : decode cL_law 226 = .ok (.iaload, 1) := by decide +kernel
theorem dL_law_227 : decode cL_law 227 = .ok (.invokevirtual 17, 3) := by decide +kernel
theorem dL_law_230 : decode cL_law 230 = .ok (.if_icmp .eq 1146, 3) := by decide +kernel
theorem dL_law_233 : decode cL_law 233 = .ok (.iconst 0, 1) := by decide +kernel
theorem dL_law_234 : decode cL_law 234 = .ok (.ireturn, 1) := by decide +kernel
theorem dL_law_235 : decode cL_law 235 = .ok (.aload_n 1, 1) := by decide +kernel
theorem dL_law_236 : decode cL_law 236 = .ok (.aload_n 0, 1) := by decide +kernel
theorem dL_law_237 : decode cL_law 237 = .ok (.iload_n 3, 1) := by decide +kernel
theorem dL_law_238 : decode cL_law 238 = .ok (.iconst 1, 1) := by decide +kernel
theorem dL_law_239 : decode cL_law 239 = .ok (.iadd, 1) := by decide +kernel
theorem dL_law_240 : decode cL_law 240 = .ok (.iaload, 1) := by decide +kernel
theorem dL_law_241 : decode cL_law 241 = .ok (.aload_n 0, 1) := by decide +kernel
theorem dL_law_242 : decode cL_law 242 = .ok (.iload_n 3, 1) := by decide +kernel
theorem dL_law_243 : decode cL_law 243 = .ok (.iconst 2, 1) := by decide +kernel
theorem dL_law_244 : decode cL_law 244 = .ok (.iadd, 1) := by decide +kernel
theorem dL_law_245 : decode cL_law 245 = .ok (.iaload, 1) := by decide +kernel
theorem dL_law_246 : decode cL_law 246 = .ok (.invokevirtual 18, 3) := by decide +kernel
theorem dL_law_249 : decode cL_law 249 = .ok (.aload_n 2, 1) := by decide +kernel
theorem dL_law_250 : decode cL_law 250 = .ok (.aload_n 0, 1) := by decide +kernel
theorem dL_law_251 : decode cL_law 251 = .ok (.iload_n 3, 1) := by decide +kernel
theorem dL_law_252 : decode cL_law 252 = .ok (.iconst 1, 1) := by decide +kernel
theorem dL_law_253 : decode cL_law 253 = .ok (.iadd, 1) := by decide +kernel
theorem dL_law_254 : decode cL_law 254 = .ok (.iaload, 1) := by decide +kernel
theorem dL_law_255 : decode cL_law 255 = .ok (.aload_n 0, 1) := by decide +kernel
theorem dL_law_256 : decode cL_law 256 = .ok (.iload_n 3, 1) := by decide +kernel
theorem dL_law_257 : decode cL_law 257 = .ok (.iconst 2, 1) := by decide +kernel
theorem dL_law_258 : decode cL_law 258 = .ok (.iadd, 1) := by decide +kernel
theorem dL_law_259 : decode cL_law 259 = .ok (.iaload, 1) := by decide +kernel
theorem dL_law_260 : decode cL_law 260 = .ok (.invokevirtual 22, 3) := by decide +kernel
theorem dL_law_263 : decode cL_law 263 = .ok (.if_icmp .eq 1113, 3) := by decide +kernel
theorem dL_law_266 : decode cL_law 266 = .ok (.iconst 0, 1) := by decide +kernel
theorem dL_law_267 : decode cL_law 267 = .ok (.ireturn, 1) := by decide +kernel
theorem dL_law_268 : decode cL_law 268 = .ok (.aload_n 1, 1) := by decide +kernel
theorem dL_law_269 : decode cL_law 269 = .ok (.aload_n 0, 1) := by decide +kernel
theorem dL_law_270 : decode cL_law 270 = .ok (.iload_n 3, 1) := by decide +kernel
theorem dL_law_271 : decode cL_law 271 = .ok (.iconst 1, 1) := by decide +kernel
theorem dL_law_272 : decode cL_law 272 = .ok (.iadd, 1) := by decide +kernel
theorem dL_law_273 : decode cL_law 273 = .ok (.iaload, 1) := by decide +kernel
theorem dL_law_274 : decode cL_law 274 = .ok (.aload_n 0, 1) := by decide +kernel
theorem dL_law_275 : decode cL_law 275 = .ok (.iload_n 3, 1) := by decide +kernel
theorem dL_law_276 : decode cL_law 276 = .ok (.iconst 2, 1) := by decide +kernel
theorem dL_law_277 : decode cL_law 277 = .ok (.iadd, 1) := by decide +kernel
theorem dL_law_278 : decode cL_law 278 = .ok (.iaload, 1) := by decide +kernel
theorem dL_law_279 : decode cL_law 279 = .ok (.aload_n 0, 1) := by decide +kernel
theorem dL_law_280 : decode cL_law 280 = .ok (.iload_n 3, 1) := by decide +kernel
theorem dL_law_281 : decode cL_law 281 = .ok (.iconst 3, 1) := by decide +kernel
theorem dL_law_282 : decode cL_law 282 = .ok (.iadd, 1) := by decide +kernel
theorem dL_law_283 : decode cL_law 283 = .ok (.iaload, 1) := by decide +kernel
theorem dL_law_284 : decode cL_law 284 = .ok (.aload_n 0, 1) := by decide +kernel
theorem dL_law_285 : decode cL_law 285 = .ok (.iload_n 3, 1) := by decide +kernel
theorem dL_law_286 : decode cL_law 286 = .ok (.iconst 4, 1) := by decide +kernel
theorem dL_law_287 : decode cL_law 287 = .ok (.iadd, 1) := by decide +kernel
theorem dL_law_288 : decode cL_law 288 = .ok (.iaload, 1) := by decide +kernel
theorem dL_law_289 : decode cL_law 289 = .ok (.invokevirtual 23, 3) := by decide +kernel
theorem dL_law_292 : decode cL_law 292 = .ok (.aload_n 2, 1) := by decide +kernel
theorem dL_law_293 : decode cL_law 293 = .ok (.aload_n 0, 1) := by decide +kernel
theorem dL_law_294 : decode cL_law 294 = .ok (.iload_n 3, 1) := by decide +kernel
theorem dL_law_295 : decode cL_law 295 = .ok (.iconst 1, 1) := by decide +kernel
theorem dL_law_296 : decode cL_law 296 = .ok (.iadd, 1) := by decide +kernel
theorem dL_law_297 : decode cL_law 297 = .ok (.iaload, 1) := by decide +kernel
theorem dL_law_298 : decode cL_law 298 = .ok (.aload_n 0, 1) := by decide +kernel
theorem dL_law_299 : decode cL_law 299 = .ok (.iload_n 3, 1) := by decide +kernel
theorem dL_law_300 : decode cL_law 300 = .ok (.iconst 2, 1) := by decide +kernel
theorem dL_law_301 : decode cL_law 301 = .ok (.iadd, 1) := by decide +kernel
theorem dL_law_302 : decode cL_law 302 = .ok (.iaload, 1) := by decide +kernel
theorem dL_law_303 : decode cL_law 303 = .ok (.aload_n 0, 1) := by decide +kernel
theorem dL_law_304 : decode cL_law 304 = .ok (.iload_n 3, 1) := by decide +kernel
theorem dL_law_305 : decode cL_law 305 = .ok (.iconst 3, 1) := by decide +kernel
theorem dL_law_306 : decode cL_law 306 = .ok (.iadd, 1) := by decide +kernel
theorem dL_law_307 : decode cL_law 307 = .ok (.iaload, 1) := by decide +kernel
theorem dL_law_308 : decode cL_law 308 = .ok (.aload_n 0, 1) := by decide +kernel
theorem dL_law_309 : decode cL_law 309 = .ok (.iload_n 3, 1) := by decide +kernel
theorem dL_law_310 : decode cL_law 310 = .ok (.iconst 4, 1) := by decide +kernel
theorem dL_law_311 : decode cL_law 311 = .ok (.iadd, 1) := by decide +kernel
theorem dL_law_312 : decode cL_law 312 = .ok (.iaload, 1) := by decide +kernel
theorem dL_law_313 : decode cL_law 313 = .ok (.invokevirtual 27, 3) := by decide +kernel
theorem dL_law_316 : decode cL_law 316 = .ok (.if_icmp .eq 1060, 3) := by decide +kernel
theorem dL_law_319 : decode cL_law 319 = .ok (.iconst 0, 1) := by decide +kernel
theorem dL_law_320 : decode cL_law 320 = .ok (.ireturn, 1) := by decide +kernel
theorem dL_law_321 : decode cL_law 321 = .ok (.aload_n 1, 1) := by decide +kernel
theorem dL_law_322 : decode cL_law 322 = .ok (.aload_n 0, 1) := by decide +kernel
theorem dL_law_323 : decode cL_law 323 = .ok (.iload_n 3, 1) := by decide +kernel
theorem dL_law_324 : decode cL_law 324 = .ok (.iconst 1, 1) := by decide +kernel
theorem dL_law_325 : decode cL_law 325 = .ok (.iadd, 1) := by decide +kernel
theorem dL_law_326 : decode cL_law 326 = .ok (.iaload, 1) := by decide +kernel
theorem dL_law_327 : decode cL_law 327 = .ok (.aload_n 0, 1) := by decide +kernel
theorem dL_law_328 : decode cL_law 328 = .ok (.iload_n 3, 1) := by decide +kernel
theorem dL_law_329 : decode cL_law 329 = .ok (.iconst 2, 1) := by decide +kernel
theorem dL_law_330 : decode cL_law 330 = .ok (.iadd, 1) := by decide +kernel
theorem dL_law_331 : decode cL_law 331 = .ok (.iaload, 1) := by decide +kernel
theorem dL_law_332 : decode cL_law 332 = .ok (.invokevirtual 28, 3) := by decide +kernel
theorem dL_law_335 : decode cL_law 335 = .ok (.aload_n 2, 1) := by decide +kernel
theorem dL_law_336 : decode cL_law 336 = .ok (.aload_n 0, 1) := by decide +kernel
theorem dL_law_337 : decode cL_law 337 = .ok (.iload_n 3, 1) := by decide +kernel
theorem dL_law_338 : decode cL_law 338 = .ok (.iconst 1, 1) := by decide +kernel
theorem dL_law_339 : decode cL_law 339 = .ok (.iadd, 1) := by decide +kernel
theorem dL_law_340 : decode cL_law 340 = .ok (.iaload, 1) := by decide +kernel
theorem dL_law_341 : decode cL_law 341 = .ok (.aload_n 0, 1) := by decide +kernel
theorem dL_law_342 : decode cL_law 342 = .ok (.iload_n 3, 1) := by decide +kernel
theorem dL_law_343 : decode cL_law 343 = .ok (.iconst 2, 1) := by decide +kernel
theorem dL_law_344 : decode cL_law 344 = .ok (.iadd, 1) := by decide +kernel
theorem dL_law_345 : decode cL_law 345 = .ok (.iaload, 1) := by decide +kernel
theorem dL_law_346 : decode cL_law 346 = .ok (.invokevirtual 31, 3) := by decide +kernel
theorem dL_law_349 : decode cL_law 349 = .ok (.if_icmp .eq 1027, 3) := by decide +kernel
theorem dL_law_352 : decode cL_law 352 = .ok (.iconst 0, 1) := by decide +kernel
theorem dL_law_353 : decode cL_law 353 = .ok (.ireturn, 1) := by decide +kernel
theorem dL_law_354 : decode cL_law 354 = .ok (.aload_n 1, 1) := by decide +kernel
theorem dL_law_355 : decode cL_law 355 = .ok (.aload_n 0, 1) := by decide +kernel
theorem dL_law_356 : decode cL_law 356 = .ok (.iload_n 3, 1) := by decide +kernel
theorem dL_law_357 : decode cL_law 357 = .ok (.iconst 1, 1) := by decide +kernel
theorem dL_law_358 : decode cL_law 358 = .ok (.iadd, 1) := by decide +kernel
theorem dL_law_359 : decode cL_law 359 = .ok (.iaload, 1) := by decide +kernel
theorem dL_law_360 : decode cL_law 360 = .ok (.aload_n 0, 1) := by decide +kernel
theorem dL_law_361 : decode cL_law 361 = .ok (.iload_n 3, 1) := by decide +kernel
theorem dL_law_362 : decode cL_law 362 = .ok (.iconst 2, 1) := by decide +kernel
theorem dL_law_363 : decode cL_law 363 = .ok (.iadd, 1) := by decide +kernel
theorem dL_law_364 : decode cL_law 364 = .ok (.iaload, 1) := by decide +kernel
theorem dL_law_365 : decode cL_law 365 = .ok (.invokevirtual 32, 3) := by decide +kernel
theorem dL_law_368 : decode cL_law 368 = .ok (.aload_n 2, 1) := by decide +kernel
theorem dL_law_369 : decode cL_law 369 = .ok (.aload_n 0, 1) := by decide +kernel
theorem dL_law_370 : decode cL_law 370 = .ok (.iload_n 3, 1) := by decide +kernel
theorem dL_law_371 : decode cL_law 371 = .ok (.iconst 1, 1) := by decide +kernel
theorem dL_law_372 : decode cL_law 372 = .ok (.iadd, 1) := by decide +kernel
theorem dL_law_373 : decode cL_law 373 = .ok (.iaload, 1) := by decide +kernel
theorem dL_law_374 : decode cL_law 374 = .ok (.aload_n 0, 1) := by decide +kernel
theorem dL_law_375 : decode cL_law 375 = .ok (.iload_n 3, 1) := by decide +kernel
theorem dL_law_376 : decode cL_law 376 = .ok (.iconst 2, 1) := by decide +kernel
theorem dL_law_377 : decode cL_law 377 = .ok (.iadd, 1) := by decide +kernel
theorem dL_law_378 : decode cL_law 378 = .ok (.iaload, 1) := by decide +kernel
theorem dL_law_379 : decode cL_law 379 = .ok (.invokevirtual 35, 3) := by decide +kernel
theorem dL_law_382 : decode cL_law 382 = .ok (.if_icmp .eq 994, 3) := by decide +kernel
theorem dL_law_385 : decode cL_law 385 = .ok (.iconst 0, 1) := by decide +kernel
theorem dL_law_386 : decode cL_law 386 = .ok (.ireturn, 1) := by decide +kernel
theorem dL_law_387 : decode cL_law 387 = .ok (.aload_n 1, 1) := by decide +kernel
theorem dL_law_388 : decode cL_law 388 = .ok (.aload_n 0, 1) := by decide +kernel
theorem dL_law_389 : decode cL_law 389 = .ok (.iload_n 3, 1) := by decide +kernel
theorem dL_law_390 : decode cL_law 390 = .ok (.iconst 1, 1) := by decide +kernel
theorem dL_law_391 : decode cL_law 391 = .ok (.iadd, 1) := by decide +kernel
theorem dL_law_392 : decode cL_law 392 = .ok (.iaload, 1) := by decide +kernel
theorem dL_law_393 : decode cL_law 393 = .ok (.aload_n 0, 1) := by decide +kernel
theorem dL_law_394 : decode cL_law 394 = .ok (.iload_n 3, 1) := by decide +kernel
theorem dL_law_395 : decode cL_law 395 = .ok (.iconst 2, 1) := by decide +kernel
theorem dL_law_396 : decode cL_law 396 = .ok (.iadd, 1) := by decide +kernel
theorem dL_law_397 : decode cL_law 397 = .ok (.iaload, 1) := by decide +kernel
theorem dL_law_398 : decode cL_law 398 = .ok (.aload_n 0, 1) := by decide +kernel
theorem dL_law_399 : decode cL_law 399 = .ok (.iload_n 3, 1) := by decide +kernel
theorem dL_law_400 : decode cL_law 400 = .ok (.iconst 3, 1) := by decide +kernel
theorem dL_law_401 : decode cL_law 401 = .ok (.iadd, 1) := by decide +kernel
theorem dL_law_402 : decode cL_law 402 = .ok (.iaload, 1) := by decide +kernel
theorem dL_law_403 : decode cL_law 403 = .ok (.invokevirtual 36, 3) := by decide +kernel
theorem dL_law_406 : decode cL_law 406 = .ok (.aload_n 2, 1) := by decide +kernel
theorem dL_law_407 : decode cL_law 407 = .ok (.aload_n 0, 1) := by decide +kernel
theorem dL_law_408 : decode cL_law 408 = .ok (.iload_n 3, 1) := by decide +kernel
theorem dL_law_409 : decode cL_law 409 = .ok (.iconst 1, 1) := by decide +kernel
theorem dL_law_410 : decode cL_law 410 = .ok (.iadd, 1) := by decide +kernel
theorem dL_law_411 : decode cL_law 411 = .ok (.iaload, 1) := by decide +kernel
theorem dL_law_412 : decode cL_law 412 = .ok (.aload_n 0, 1) := by decide +kernel
theorem dL_law_413 : decode cL_law 413 = .ok (.iload_n 3, 1) := by decide +kernel
theorem dL_law_414 : decode cL_law 414 = .ok (.iconst 2, 1) := by decide +kernel
theorem dL_law_415 : decode cL_law 415 = .ok (.iadd, 1) := by decide +kernel
theorem dL_law_416 : decode cL_law 416 = .ok (.iaload, 1) := by decide +kernel
theorem dL_law_417 : decode cL_law 417 = .ok (.aload_n 0, 1) := by decide +kernel
theorem dL_law_418 : decode cL_law 418 = .ok (.iload_n 3, 1) := by decide +kernel
theorem dL_law_419 : decode cL_law 419 = .ok (.iconst 3, 1) := by decide +kernel
theorem dL_law_420 : decode cL_law 420 = .ok (.iadd, 1) := by decide +kernel
theorem dL_law_421 : decode cL_law 421 = .ok (.iaload, 1) := by decide +kernel
theorem dL_law_422 : decode cL_law 422 = .ok (.invokevirtual 39, 3) := by decide +kernel
theorem dL_law_425 : decode cL_law 425 = .ok (.if_icmp .eq 951, 3) := by decide +kernel
theorem dL_law_428 : decode cL_law 428 = .ok (.iconst 0, 1) := by decide +kernel
theorem dL_law_429 : decode cL_law 429 = .ok (.ireturn, 1) := by decide +kernel
theorem dL_law_430 : decode cL_law 430 = .ok (.aload_n 1, 1) := by decide +kernel
theorem dL_law_431 : decode cL_law 431 = .ok (.aload_n 0, 1) := by decide +kernel
theorem dL_law_432 : decode cL_law 432 = .ok (.iload_n 3, 1) := by decide +kernel
theorem dL_law_433 : decode cL_law 433 = .ok (.iconst 1, 1) := by decide +kernel
theorem dL_law_434 : decode cL_law 434 = .ok (.iadd, 1) := by decide +kernel
theorem dL_law_435 : decode cL_law 435 = .ok (.iaload, 1) := by decide +kernel
theorem dL_law_436 : decode cL_law 436 = .ok (.invokevirtual 40, 3) := by decide +kernel
theorem dL_law_439 : decode cL_law 439 = .ok (.aload_n 2, 1) := by decide +kernel
theorem dL_law_440 : decode cL_law 440 = .ok (.aload_n 0, 1) := by decide +kernel
theorem dL_law_441 : decode cL_law 441 = .ok (.iload_n 3, 1) := by decide +kernel
theorem dL_law_442 : decode cL_law 442 = .ok (.iconst 1, 1) := by decide +kernel
theorem dL_law_443 : decode cL_law 443 = .ok (.iadd, 1) := by decide +kernel
theorem dL_law_444 : decode cL_law 444 = .ok (.iaload, 1) := by decide +kernel
theorem dL_law_445 : decode cL_law 445 = .ok (.invokevirtual 44, 3) := by decide +kernel
theorem dL_law_448 : decode cL_law 448 = .ok (.if_icmp .eq 928, 3) := by decide +kernel
theorem dL_law_451 : decode cL_law 451 = .ok (.iconst 0, 1) := by decide +kernel
theorem dL_law_452 : decode cL_law 452 = .ok (.ireturn, 1) := by decide +kernel
theorem dL_law_453 : decode cL_law 453 = .ok (.aload_n 1, 1) := by decide +kernel
theorem dL_law_454 : decode cL_law 454 = .ok (.aload_n 0, 1) := by decide +kernel
theorem dL_law_455 : decode cL_law 455 = .ok (.iload_n 3, 1) := by decide +kernel
theorem dL_law_456 : decode cL_law 456 = .ok (.iconst 1, 1) := by decide +kernel
theorem dL_law_457 : decode cL_law 457 = .ok (.iadd, 1) := by decide +kernel
theorem dL_law_458 : decode cL_law 458 = .ok (.iaload, 1) := by decide +kernel
theorem dL_law_459 : decode cL_law 459 = .ok (.aload_n 0, 1) := by decide +kernel
theorem dL_law_460 : decode cL_law 460 = .ok (.iload_n 3, 1) := by decide +kernel
theorem dL_law_461 : decode cL_law 461 = .ok (.iconst 2, 1) := by decide +kernel
theorem dL_law_462 : decode cL_law 462 = .ok (.iadd, 1) := by decide +kernel
theorem dL_law_463 : decode cL_law 463 = .ok (.iaload, 1) := by decide +kernel
theorem dL_law_464 : decode cL_law 464 = .ok (.aload_n 0, 1) := by decide +kernel
theorem dL_law_465 : decode cL_law 465 = .ok (.iload_n 3, 1) := by decide +kernel
theorem dL_law_466 : decode cL_law 466 = .ok (.iconst 3, 1) := by decide +kernel
theorem dL_law_467 : decode cL_law 467 = .ok (.iadd, 1) := by decide +kernel
theorem dL_law_468 : decode cL_law 468 = .ok (.iaload, 1) := by decide +kernel
theorem dL_law_469 : decode cL_law 469 = .ok (.invokevirtual 45, 3) := by decide +kernel
theorem dL_law_472 : decode cL_law 472 = .ok (.aload_n 2, 1) := by decide +kernel
theorem dL_law_473 : decode cL_law 473 = .ok (.aload_n 0, 1) := by decide +kernel
theorem dL_law_474 : decode cL_law 474 = .ok (.iload_n 3, 1) := by decide +kernel
theorem dL_law_475 : decode cL_law 475 = .ok (.iconst 1, 1) := by decide +kernel
theorem dL_law_476 : decode cL_law 476 = .ok (.iadd, 1) := by decide +kernel
theorem dL_law_477 : decode cL_law 477 = .ok (.iaload, 1) := by decide +kernel
theorem dL_law_478 : decode cL_law 478 = .ok (.aload_n 0, 1) := by decide +kernel
theorem dL_law_479 : decode cL_law 479 = .ok (.iload_n 3, 1) := by decide +kernel
theorem dL_law_480 : decode cL_law 480 = .ok (.iconst 2, 1) := by decide +kernel
theorem dL_law_481 : decode cL_law 481 = .ok (.iadd, 1) := by decide +kernel
theorem dL_law_482 : decode cL_law 482 = .ok (.iaload, 1) := by decide +kernel
theorem dL_law_483 : decode cL_law 483 = .ok (.aload_n 0, 1) := by decide +kernel
theorem dL_law_484 : decode cL_law 484 = .ok (.iload_n 3, 1) := by decide +kernel
theorem dL_law_485 : decode cL_law 485 = .ok (.iconst 3, 1) := by decide +kernel
theorem dL_law_486 : decode cL_law 486 = .ok (.iadd, 1) := by decide +kernel
theorem dL_law_487 : decode cL_law 487 = .ok (.iaload, 1) := by decide +kernel
theorem dL_law_488 : decode cL_law 488 = .ok (.invokevirtual 48, 3) := by decide +kernel
theorem dL_law_491 : decode cL_law 491 = .ok (.if_icmp .eq 885, 3) := by decide +kernel
theorem dL_law_494 : decode cL_law 494 = .ok (.iconst 0, 1) := by decide +kernel
theorem dL_law_495 : decode cL_law 495 = .ok (.ireturn, 1) := by decide +kernel
theorem dL_law_496 : decode cL_law 496 = .ok (.aload_n 1, 1) := by decide +kernel
theorem dL_law_497 : decode cL_law 497 = .ok (.aload_n 0, 1) := by decide +kernel
theorem dL_law_498 : decode cL_law 498 = .ok (.iload_n 3, 1) := by decide +kernel
theorem dL_law_499 : decode cL_law 499 = .ok (.iconst 1, 1) := by decide +kernel
theorem dL_law_500 : decode cL_law 500 = .ok (.iadd, 1) := by decide +kernel
theorem dL_law_501 : decode cL_law 501 = .ok (.iaload, 1) := by decide +kernel
theorem dL_law_502 : decode cL_law 502 = .ok (.aload_n 0, 1) := by decide +kernel
theorem dL_law_503 : decode cL_law 503 = .ok (.iload_n 3, 1) := by decide +kernel
theorem dL_law_504 : decode cL_law 504 = .ok (.iconst 2, 1) := by decide +kernel
theorem dL_law_505 : decode cL_law 505 = .ok (.iadd, 1) := by decide +kernel
theorem dL_law_506 : decode cL_law 506 = .ok (.iaload, 1) := by decide +kernel
theorem dL_law_507 : decode cL_law 507 = .ok (.invokevirtual 49, 3) := by decide +kernel
theorem dL_law_510 : decode cL_law 510 = .ok (.aload_n 2, 1) := by decide +kernel
theorem dL_law_511 : decode cL_law 511 = .ok (.aload_n 0, 1) := by decide +kernel
theorem dL_law_512 : decode cL_law 512 = .ok (.iload_n 3, 1) := by decide +kernel
theorem dL_law_513 : decode cL_law 513 = .ok (.iconst 1, 1) := by decide +kernel
theorem dL_law_514 : decode cL_law 514 = .ok (.iadd, 1) := by decide +kernel
theorem dL_law_515 : decode cL_law 515 = .ok (.iaload, 1) := by decide +kernel
theorem dL_law_516 : decode cL_law 516 = .ok (.aload_n 0, 1) := by decide +kernel
theorem dL_law_517 : decode cL_law 517 = .ok (.iload_n 3, 1) := by decide +kernel
theorem dL_law_518 : decode cL_law 518 = .ok (.iconst 2, 1) := by decide +kernel
theorem dL_law_519 : decode cL_law 519 = .ok (.iadd, 1) := by decide +kernel
theorem dL_law_520 : decode cL_law 520 = .ok (.iaload, 1) := by decide +kernel
theorem dL_law_521 : decode cL_law 521 = .ok (.invokevirtual 52, 3) := by decide +kernel
theorem dL_law_524 : decode cL_law 524 = .ok (.if_icmp .eq 852, 3) := by decide +kernel
theorem dL_law_527 : decode cL_law 527 = .ok (.iconst 0, 1) := by decide +kernel
theorem dL_law_528 : decode cL_law 528 = .ok (.ireturn, 1) := by decide +kernel
theorem dL_law_529 : decode cL_law 529 = .ok (.aload_n 1, 1) := by decide +kernel
theorem dL_law_530 : decode cL_law 530 = .ok (.aload_n 0, 1) := by decide +kernel
theorem dL_law_531 : decode cL_law 531 = .ok (.iload_n 3, 1) := by decide +kernel
theorem dL_law_532 : decode cL_law 532 = .ok (.iconst 1, 1) := by decide +kernel
theorem dL_law_533 : decode cL_law 533 = .ok (.iadd, 1) := by decide +kernel
theorem dL_law_534 : decode cL_law 534 = .ok (.iaload, 1) := by decide +kernel
theorem dL_law_535 : decode cL_law 535 = .ok (.aload_n 0, 1) := by decide +kernel
theorem dL_law_536 : decode cL_law 536 = .ok (.iload_n 3, 1) := by decide +kernel
theorem dL_law_537 : decode cL_law 537 = .ok (.iconst 2, 1) := by decide +kernel
theorem dL_law_538 : decode cL_law 538 = .ok (.iadd, 1) := by decide +kernel
theorem dL_law_539 : decode cL_law 539 = .ok (.iaload, 1) := by decide +kernel
theorem dL_law_540 : decode cL_law 540 = .ok (.invokevirtual 53, 3) := by decide +kernel
theorem dL_law_543 : decode cL_law 543 = .ok (.aload_n 2, 1) := by decide +kernel
theorem dL_law_544 : decode cL_law 544 = .ok (.aload_n 0, 1) := by decide +kernel
theorem dL_law_545 : decode cL_law 545 = .ok (.iload_n 3, 1) := by decide +kernel
theorem dL_law_546 : decode cL_law 546 = .ok (.iconst 1, 1) := by decide +kernel
theorem dL_law_547 : decode cL_law 547 = .ok (.iadd, 1) := by decide +kernel
theorem dL_law_548 : decode cL_law 548 = .ok (.iaload, 1) := by decide +kernel
theorem dL_law_549 : decode cL_law 549 = .ok (.aload_n 0, 1) := by decide +kernel
theorem dL_law_550 : decode cL_law 550 = .ok (.iload_n 3, 1) := by decide +kernel
theorem dL_law_551 : decode cL_law 551 = .ok (.iconst 2, 1) := by decide +kernel
theorem dL_law_552 : decode cL_law 552 = .ok (.iadd, 1) := by decide +kernel
theorem dL_law_553 : decode cL_law 553 = .ok (.iaload, 1) := by decide +kernel
theorem dL_law_554 : decode cL_law 554 = .ok (.invokevirtual 56, 3) := by decide +kernel
theorem dL_law_557 : decode cL_law 557 = .ok (.if_icmp .eq 819, 3) := by decide +kernel
theorem dL_law_560 : decode cL_law 560 = .ok (.iconst 0, 1) := by decide +kernel
theorem dL_law_561 : decode cL_law 561 = .ok (.ireturn, 1) := by decide +kernel
theorem dL_law_562 : decode cL_law 562 = .ok (.aload_n 1, 1) := by decide +kernel
theorem dL_law_563 : decode cL_law 563 = .ok (.aload_n 0, 1) := by decide +kernel
theorem dL_law_564 : decode cL_law 564 = .ok (.iload_n 3, 1) := by decide +kernel
theorem dL_law_565 : decode cL_law 565 = .ok (.iconst 1, 1) := by decide +kernel
theorem dL_law_566 : decode cL_law 566 = .ok (.iadd, 1) := by decide +kernel
theorem dL_law_567 : decode cL_law 567 = .ok (.iaload, 1) := by decide +kernel
theorem dL_law_568 : decode cL_law 568 = .ok (.aload_n 0, 1) := by decide +kernel
theorem dL_law_569 : decode cL_law 569 = .ok (.iload_n 3, 1) := by decide +kernel
theorem dL_law_570 : decode cL_law 570 = .ok (.iconst 2, 1) := by decide +kernel
theorem dL_law_571 : decode cL_law 571 = .ok (.iadd, 1) := by decide +kernel
theorem dL_law_572 : decode cL_law 572 = .ok (.iaload, 1) := by decide +kernel
theorem dL_law_573 : decode cL_law 573 = .ok (.invokevirtual 57, 3) := by decide +kernel
theorem dL_law_576 : decode cL_law 576 = .ok (.aload_n 2, 1) := by decide +kernel
theorem dL_law_577 : decode cL_law 577 = .ok (.aload_n 0, 1) := by decide +kernel
theorem dL_law_578 : decode cL_law 578 = .ok (.iload_n 3, 1) := by decide +kernel
theorem dL_law_579 : decode cL_law 579 = .ok (.iconst 1, 1) := by decide +kernel
theorem dL_law_580 : decode cL_law 580 = .ok (.iadd, 1) := by decide +kernel
theorem dL_law_581 : decode cL_law 581 = .ok (.iaload, 1) := by decide +kernel
theorem dL_law_582 : decode cL_law 582 = .ok (.aload_n 0, 1) := by decide +kernel
theorem dL_law_583 : decode cL_law 583 = .ok (.iload_n 3, 1) := by decide +kernel
theorem dL_law_584 : decode cL_law 584 = .ok (.iconst 2, 1) := by decide +kernel
theorem dL_law_585 : decode cL_law 585 = .ok (.iadd, 1) := by decide +kernel
theorem dL_law_586 : decode cL_law 586 = .ok (.iaload, 1) := by decide +kernel
theorem dL_law_587 : decode cL_law 587 = .ok (.invokevirtual 60, 3) := by decide +kernel
theorem dL_law_590 : decode cL_law 590 = .ok (.if_icmp .eq 786, 3) := by decide +kernel
theorem dL_law_593 : decode cL_law 593 = .ok (.iconst 0, 1) := by decide +kernel
theorem dL_law_594 : decode cL_law 594 = .ok (.ireturn, 1) := by decide +kernel
theorem dL_law_595 : decode cL_law 595 = .ok (.aload_n 1, 1) := by decide +kernel
theorem dL_law_596 : decode cL_law 596 = .ok (.aload_n 0, 1) := by decide +kernel
theorem dL_law_597 : decode cL_law 597 = .ok (.iload_n 3, 1) := by decide +kernel
theorem dL_law_598 : decode cL_law 598 = .ok (.iconst 1, 1) := by decide +kernel
theorem dL_law_599 : decode cL_law 599 = .ok (.iadd, 1) := by decide +kernel
theorem dL_law_600 : decode cL_law 600 = .ok (.iaload, 1) := by decide +kernel
theorem dL_law_601 : decode cL_law 601 = .ok (.invokevirtual 61, 3) := by decide +kernel
theorem dL_law_604 : decode cL_law 604 = .ok (.aload_n 2, 1) := by decide +kernel
theorem dL_law_605 : decode cL_law 605 = .ok (.aload_n 0, 1) := by decide +kernel
theorem dL_law_606 : decode cL_law 606 = .ok (.iload_n 3, 1) := by decide +kernel
theorem dL_law_607 : decode cL_law 607 = .ok (.iconst 1, 1) := by decide +kernel
theorem dL_law_608 : decode cL_law 608 = .ok (.iadd, 1) := by decide +kernel
theorem dL_law_609 : decode cL_law 609 = .ok (.iaload, 1) := by decide +kernel
theorem dL_law_610 : decode cL_law 610 = .ok (.invokevirtual 64, 3) := by decide +kernel
theorem dL_law_613 : decode cL_law 613 = .ok (.if_icmp .eq 763, 3) := by decide +kernel
theorem dL_law_616 : decode cL_law 616 = .ok (.iconst 0, 1) := by decide +kernel
theorem dL_law_617 : decode cL_law 617 = .ok (.ireturn, 1) := by decide +kernel
theorem dL_law_618 : decode cL_law 618 = .ok (.aload_n 1, 1) := by decide +kernel
theorem dL_law_619 : decode cL_law 619 = .ok (.aload_n 0, 1) := by decide +kernel
theorem dL_law_620 : decode cL_law 620 = .ok (.iload_n 3, 1) := by decide +kernel
theorem dL_law_621 : decode cL_law 621 = .ok (.iconst 1, 1) := by decide +kernel
theorem dL_law_622 : decode cL_law 622 = .ok (.iadd, 1) := by decide +kernel
theorem dL_law_623 : decode cL_law 623 = .ok (.iaload, 1) := by decide +kernel
theorem dL_law_624 : decode cL_law 624 = .ok (.invokevirtual 65, 3) := by decide +kernel
theorem dL_law_627 : decode cL_law 627 = .ok (.aload_n 2, 1) := by decide +kernel
theorem dL_law_628 : decode cL_law 628 = .ok (.aload_n 0, 1) := by decide +kernel
theorem dL_law_629 : decode cL_law 629 = .ok (.iload_n 3, 1) := by decide +kernel
theorem dL_law_630 : decode cL_law 630 = .ok (.iconst 1, 1) := by decide +kernel
theorem dL_law_631 : decode cL_law 631 = .ok (.iadd, 1) := by decide +kernel
theorem dL_law_632 : decode cL_law 632 = .ok (.iaload, 1) := by decide +kernel
theorem dL_law_633 : decode cL_law 633 = .ok (.invokevirtual 68, 3) := by decide +kernel
theorem dL_law_636 : decode cL_law 636 = .ok (.if_icmp .eq 740, 3) := by decide +kernel
theorem dL_law_639 : decode cL_law 639 = .ok (.iconst 0, 1) := by decide +kernel
theorem dL_law_640 : decode cL_law 640 = .ok (.ireturn, 1) := by decide +kernel
theorem dL_law_641 : decode cL_law 641 = .ok (.aload_n 1, 1) := by decide +kernel
theorem dL_law_642 : decode cL_law 642 = .ok (.aload_n 0, 1) := by decide +kernel
theorem dL_law_643 : decode cL_law 643 = .ok (.iload_n 3, 1) := by decide +kernel
theorem dL_law_644 : decode cL_law 644 = .ok (.iconst 1, 1) := by decide +kernel
theorem dL_law_645 : decode cL_law 645 = .ok (.iadd, 1) := by decide +kernel
theorem dL_law_646 : decode cL_law 646 = .ok (.iaload, 1) := by decide +kernel
theorem dL_law_647 : decode cL_law 647 = .ok (.invokevirtual 69, 3) := by decide +kernel
theorem dL_law_650 : decode cL_law 650 = .ok (.aload_n 2, 1) := by decide +kernel
theorem dL_law_651 : decode cL_law 651 = .ok (.aload_n 0, 1) := by decide +kernel
theorem dL_law_652 : decode cL_law 652 = .ok (.iload_n 3, 1) := by decide +kernel
theorem dL_law_653 : decode cL_law 653 = .ok (.iconst 1, 1) := by decide +kernel
theorem dL_law_654 : decode cL_law 654 = .ok (.iadd, 1) := by decide +kernel
theorem dL_law_655 : decode cL_law 655 = .ok (.iaload, 1) := by decide +kernel
theorem dL_law_656 : decode cL_law 656 = .ok (.invokevirtual 72, 3) := by decide +kernel
theorem dL_law_659 : decode cL_law 659 = .ok (.if_icmp .eq 717, 3) := by decide +kernel
theorem dL_law_662 : decode cL_law 662 = .ok (.iconst 0, 1) := by decide +kernel
theorem dL_law_663 : decode cL_law 663 = .ok (.ireturn, 1) := by decide +kernel
theorem dL_law_664 : decode cL_law 664 = .ok (.aload_n 1, 1) := by decide +kernel
theorem dL_law_665 : decode cL_law 665 = .ok (.invokevirtual 73, 3) := by decide +kernel
theorem dL_law_668 : decode cL_law 668 = .ok (.aload_n 2, 1) := by decide +kernel
theorem dL_law_669 : decode cL_law 669 = .ok (.invokevirtual 77, 3) := by decide +kernel
theorem dL_law_672 : decode cL_law 672 = .ok (.if_icmp .eq 704, 3) := by decide +kernel
theorem dL_law_675 : decode cL_law 675 = .ok (.iconst 0, 1) := by decide +kernel
theorem dL_law_676 : decode cL_law 676 = .ok (.ireturn, 1) := by decide +kernel
theorem dL_law_677 : decode cL_law 677 = .ok (.aload_n 1, 1) := by decide +kernel
theorem dL_law_678 : decode cL_law 678 = .ok (.aload_n 0, 1) := by decide +kernel
theorem dL_law_679 : decode cL_law 679 = .ok (.iload_n 3, 1) := by decide +kernel
theorem dL_law_680 : decode cL_law 680 = .ok (.iconst 1, 1) := by decide +kernel
theorem dL_law_681 : decode cL_law 681 = .ok (.iadd, 1) := by decide +kernel
theorem dL_law_682 : decode cL_law 682 = .ok (.iaload, 1) := by decide +kernel
theorem dL_law_683 : decode cL_law 683 = .ok (.aload_n 0, 1) := by decide +kernel
theorem dL_law_684 : decode cL_law 684 = .ok (.iload_n 3, 1) := by decide +kernel
theorem dL_law_685 : decode cL_law 685 = .ok (.iconst 2, 1) := by decide +kernel
theorem dL_law_686 : decode cL_law 686 = .ok (.iadd, 1) := by decide +kernel
theorem dL_law_687 : decode cL_law 687 = .ok (.iaload, 1) := by decide +kernel
theorem dL_law_688 : decode cL_law 688 = .ok (.invokevirtual 78, 3) := by decide +kernel
theorem dL_law_691 : decode cL_law 691 = .ok (.aload_n 2, 1) := by decide +kernel
theorem dL_law_692 : decode cL_law 692 = .ok (.aload_n 0, 1) := by decide +kernel
theorem dL_law_693 : decode cL_law 693 = .ok (.iload_n 3, 1) := by decide +kernel
theorem dL_law_694 : decode cL_law 694 = .ok (.iconst 1, 1) := by decide +kernel
theorem dL_law_695 : decode cL_law 695 = .ok (.iadd, 1) := by decide +kernel
theorem dL_law_696 : decode cL_law 696 = .ok (.iaload, 1) := by decide +kernel
theorem dL_law_697 : decode cL_law 697 = .ok (.aload_n 0, 1) := by decide +kernel
theorem dL_law_698 : decode cL_law 698 = .ok (.iload_n 3, 1) := by decide +kernel
theorem dL_law_699 : decode cL_law 699 = .ok (.iconst 2, 1) := by decide +kernel
theorem dL_law_700 : decode cL_law 700 = .ok (.iadd, 1) := by decide +kernel
theorem dL_law_701 : decode cL_law 701 = .ok (.iaload, 1) := by decide +kernel
theorem dL_law_702 : decode cL_law 702 = .ok (.invokevirtual 81, 3) := by decide +kernel
theorem dL_law_705 : decode cL_law 705 = .ok (.if_icmp .eq 671, 3) := by decide +kernel
theorem dL_law_708 : decode cL_law 708 = .ok (.iconst 0, 1) := by decide +kernel
theorem dL_law_709 : decode cL_law 709 = .ok (.ireturn, 1) := by decide +kernel
theorem dL_law_710 : decode cL_law 710 = .ok (.aload_n 1, 1) := by decide +kernel
theorem dL_law_711 : decode cL_law 711 = .ok (.aload_n 0, 1) := by decide +kernel
theorem dL_law_712 : decode cL_law 712 = .ok (.iload_n 3, 1) := by decide +kernel
theorem dL_law_713 : decode cL_law 713 = .ok (.iconst 1, 1) := by decide +kernel
theorem dL_law_714 : decode cL_law 714 = .ok (.iadd, 1) := by decide +kernel
theorem dL_law_715 : decode cL_law 715 = .ok (.iaload, 1) := by decide +kernel
theorem dL_law_716 : decode cL_law 716 = .ok (.aload_n 0, 1) := by decide +kernel
theorem dL_law_717 : decode cL_law 717 = .ok (.iload_n 3, 1) := by decide +kernel
theorem dL_law_718 : decode cL_law 718 = .ok (.iconst 2, 1) := by decide +kernel
theorem dL_law_719 : decode cL_law 719 = .ok (.iadd, 1) := by decide +kernel
theorem dL_law_720 : decode cL_law 720 = .ok (.iaload, 1) := by decide +kernel
theorem dL_law_721 : decode cL_law 721 = .ok (.aload_n 0, 1) := by decide +kernel
theorem dL_law_722 : decode cL_law 722 = .ok (.iload_n 3, 1) := by decide +kernel
theorem dL_law_723 : decode cL_law 723 = .ok (.iconst 3, 1) := by decide +kernel
theorem dL_law_724 : decode cL_law 724 = .ok (.iadd, 1) := by decide +kernel
theorem dL_law_725 : decode cL_law 725 = .ok (.iaload, 1) := by decide +kernel
theorem dL_law_726 : decode cL_law 726 = .ok (.aload_n 0, 1) := by decide +kernel
theorem dL_law_727 : decode cL_law 727 = .ok (.iload_n 3, 1) := by decide +kernel
theorem dL_law_728 : decode cL_law 728 = .ok (.iconst 4, 1) := by decide +kernel
theorem dL_law_729 : decode cL_law 729 = .ok (.iadd, 1) := by decide +kernel
theorem dL_law_730 : decode cL_law 730 = .ok (.iaload, 1) := by decide +kernel
theorem dL_law_731 : decode cL_law 731 = .ok (.aload_n 0, 1) := by decide +kernel
theorem dL_law_732 : decode cL_law 732 = .ok (.iload_n 3, 1) := by decide +kernel
theorem dL_law_733 : decode cL_law 733 = .ok (.iconst 5, 1) := by decide +kernel
theorem dL_law_734 : decode cL_law 734 = .ok (.iadd, 1) := by decide +kernel
theorem dL_law_735 : decode cL_law 735 = .ok (.iaload, 1) := by decide +kernel
theorem dL_law_736 : decode cL_law 736 = .ok (.invokevirtual 82, 3) := by decide +kernel
theorem dL_law_739 : decode cL_law 739 = .ok (.aload_n 2, 1) := by decide +kernel
theorem dL_law_740 : decode cL_law 740 = .ok (.aload_n 0, 1) := by decide +kernel
theorem dL_law_741 : decode cL_law 741 = .ok (.iload_n 3, 1) := by decide +kernel
theorem dL_law_742 : decode cL_law 742 = .ok (.iconst 1, 1) := by decide +kernel
theorem dL_law_743 : decode cL_law 743 = .ok (.iadd, 1) := by decide +kernel
theorem dL_law_744 : decode cL_law 744 = .ok (.iaload, 1) := by decide +kernel
theorem dL_law_745 : decode cL_law 745 = .ok (.aload_n 0, 1) := by decide +kernel
theorem dL_law_746 : decode cL_law 746 = .ok (.iload_n 3, 1) := by decide +kernel
theorem dL_law_747 : decode cL_law 747 = .ok (.iconst 2, 1) := by decide +kernel
theorem dL_law_748 : decode cL_law 748 = .ok (.iadd, 1) := by decide +kernel
theorem dL_law_749 : decode cL_law 749 = .ok (.iaload, 1) := by decide +kernel
theorem dL_law_750 : decode cL_law 750 = .ok (.aload_n 0, 1) := by decide +kernel
theorem dL_law_751 : decode cL_law 751 = .ok (.iload_n 3, 1) := by decide +kernel
theorem dL_law_752 : decode cL_law 752 = .ok (.iconst 3, 1) := by decide +kernel
theorem dL_law_753 : decode cL_law 753 = .ok (.iadd, 1) := by decide +kernel
theorem dL_law_754 : decode cL_law 754 = .ok (.iaload, 1) := by decide +kernel
theorem dL_law_755 : decode cL_law 755 = .ok (.aload_n 0, 1) := by decide +kernel
theorem dL_law_756 : decode cL_law 756 = .ok (.iload_n 3, 1) := by decide +kernel
theorem dL_law_757 : decode cL_law 757 = .ok (.iconst 4, 1) := by decide +kernel
theorem dL_law_758 : decode cL_law 758 = .ok (.iadd, 1) := by decide +kernel
theorem dL_law_759 : decode cL_law 759 = .ok (.iaload, 1) := by decide +kernel
theorem dL_law_760 : decode cL_law 760 = .ok (.aload_n 0, 1) := by decide +kernel
theorem dL_law_761 : decode cL_law 761 = .ok (.iload_n 3, 1) := by decide +kernel
theorem dL_law_762 : decode cL_law 762 = .ok (.iconst 5, 1) := by decide +kernel
theorem dL_law_763 : decode cL_law 763 = .ok (.iadd, 1) := by decide +kernel
theorem dL_law_764 : decode cL_law 764 = .ok (.iaload, 1) := by decide +kernel
theorem dL_law_765 : decode cL_law 765 = .ok (.invokevirtual 86, 3) := by decide +kernel
theorem dL_law_768 : decode cL_law 768 = .ok (.if_icmp .eq 608, 3) := by decide +kernel
theorem dL_law_771 : decode cL_law 771 = .ok (.iconst 0, 1) := by decide +kernel
theorem dL_law_772 : decode cL_law 772 = .ok (.ireturn, 1) := by decide +kernel
theorem dL_law_773 : decode cL_law 773 = .ok (.aload_n 1, 1) := by decide +kernel
theorem dL_law_774 : decode cL_law 774 = .ok (.aload_n 0, 1) := by decide +kernel
theorem dL_law_775 : decode cL_law 775 = .ok (.iload_n 3, 1) := by decide +kernel
theorem dL_law_776 : decode cL_law 776 = .ok (.iconst 1, 1) := by decide +kernel
theorem dL_law_777 : decode cL_law 777 = .ok (.iadd, 1) := by decide +kernel
theorem dL_law_778 : decode cL_law 778 = .ok (.iaload, 1) := by decide +kernel
theorem dL_law_779 : decode cL_law 779 = .ok (.invokevirtual 87, 3) := by decide +kernel
theorem dL_law_782 : decode cL_law 782 = .ok (.aload_n 2, 1) := by decide +kernel
theorem dL_law_783 : decode cL_law 783 = .ok (.aload_n 0, 1) := by decide +kernel
theorem dL_law_784 : decode cL_law 784 = .ok (.iload_n 3, 1) := by decide +kernel
theorem dL_law_785 : decode cL_law 785 = .ok (.iconst 1, 1) := by decide +kernel
theorem dL_law_786 : decode cL_law 786 = .ok (.iadd, 1) := by decide +kernel
theorem dL_law_787 : decode cL_law 787 = .ok (.iaload, 1) := by decide +kernel
theorem dL_law_788 : decode cL_law 788 = .ok (.invokevirtual 90, 3) := by decide +kernel
theorem dL_law_791 : decode cL_law 791 = .ok (.if_icmp .eq 585, 3) := by decide +kernel
theorem dL_law_794 : decode cL_law 794 = .ok (.iconst 0, 1) := by decide +kernel
theorem dL_law_795 : decode cL_law 795 = .ok (.ireturn, 1) := by decide +kernel
theorem dL_law_796 : decode cL_law 796 = .ok (.aload_n 1, 1) := by decide +kernel
theorem dL_law_797 : decode cL_law 797 = .ok (.aload_n 0, 1) := by decide +kernel
theorem dL_law_798 : decode cL_law 798 = .ok (.iload_n 3, 1) := by decide +kernel
theorem dL_law_799 : decode cL_law 799 = .ok (.iconst 1, 1) := by decide +kernel
theorem dL_law_800 : decode cL_law 800 = .ok (.iadd, 1) := by decide +kernel
theorem dL_law_801 : decode cL_law 801 = .ok (.iaload, 1) := by decide +kernel
theorem dL_law_802 : decode cL_law 802 = .ok (.invokevirtual 91, 3) := by decide +kernel
theorem dL_law_805 : decode cL_law 805 = .ok (.aload_n 2, 1) := by decide +kernel
theorem dL_law_806 : decode cL_law 806 = .ok (.aload_n 0, 1) := by decide +kernel
theorem dL_law_807 : decode cL_law 807 = .ok (.iload_n 3, 1) := by decide +kernel
theorem dL_law_808 : decode cL_law 808 = .ok (.iconst 1, 1) := by decide +kernel
theorem dL_law_809 : decode cL_law 809 = .ok (.iadd, 1) := by decide +kernel
theorem dL_law_810 : decode cL_law 810 = .ok (.iaload, 1) := by decide +kernel
theorem dL_law_811 : decode cL_law 811 = .ok (.invokevirtual 94, 3) := by decide +kernel
theorem dL_law_814 : decode cL_law 814 = .ok (.if_icmp .eq 562, 3) := by decide +kernel
theorem dL_law_817 : decode cL_law 817 = .ok (.iconst 0, 1) := by decide +kernel
theorem dL_law_818 : decode cL_law 818 = .ok (.ireturn, 1) := by decide +kernel
theorem dL_law_819 : decode cL_law 819 = .ok (.aload_n 1, 1) := by decide +kernel
theorem dL_law_820 : decode cL_law 820 = .ok (.aload_n 0, 1) := by decide +kernel
theorem dL_law_821 : decode cL_law 821 = .ok (.iload_n 3, 1) := by decide +kernel
theorem dL_law_822 : decode cL_law 822 = .ok (.iconst 1, 1) := by decide +kernel
theorem dL_law_823 : decode cL_law 823 = .ok (.iadd, 1) := by decide +kernel
theorem dL_law_824 : decode cL_law 824 = .ok (.iaload, 1) := by decide +kernel
theorem dL_law_825 : decode cL_law 825 = .ok (.invokevirtual 95, 3) := by decide +kernel
theorem dL_law_828 : decode cL_law 828 = .ok (.aload_n 2, 1) := by decide +kernel
theorem dL_law_829 : decode cL_law 829 = .ok (.aload_n 0, 1) := by decide +kernel
theorem dL_law_830 : decode cL_law 830 = .ok (.iload_n 3, 1) := by decide +kernel
theorem dL_law_831 : decode cL_law 831 = .ok (.iconst 1, 1) := by decide +kernel
theorem dL_law_832 : decode cL_law 832 = .ok (.iadd, 1) := by decide +kernel
theorem dL_law_833 : decode cL_law 833 = .ok (.iaload, 1) := by decide +kernel
theorem dL_law_834 : decode cL_law 834 = .ok (.invokevirtual 98, 3) := by decide +kernel
theorem dL_law_837 : decode cL_law 837 = .ok (.if_icmp .eq 539, 3) := by decide +kernel
theorem dL_law_840 : decode cL_law 840 = .ok (.iconst 0, 1) := by decide +kernel
theorem dL_law_841 : decode cL_law 841 = .ok (.ireturn, 1) := by decide +kernel
theorem dL_law_842 : decode cL_law 842 = .ok (.aload_n 1, 1) := by decide +kernel
theorem dL_law_843 : decode cL_law 843 = .ok (.aload_n 0, 1) := by decide +kernel
theorem dL_law_844 : decode cL_law 844 = .ok (.iload_n 3, 1) := by decide +kernel
theorem dL_law_845 : decode cL_law 845 = .ok (.iconst 1, 1) := by decide +kernel
theorem dL_law_846 : decode cL_law 846 = .ok (.iadd, 1) := by decide +kernel
theorem dL_law_847 : decode cL_law 847 = .ok (.iaload, 1) := by decide +kernel
theorem dL_law_848 : decode cL_law 848 = .ok (.invokevirtual 99, 3) := by decide +kernel
theorem dL_law_851 : decode cL_law 851 = .ok (.aload_n 2, 1) := by decide +kernel
theorem dL_law_852 : decode cL_law 852 = .ok (.aload_n 0, 1) := by decide +kernel
theorem dL_law_853 : decode cL_law 853 = .ok (.iload_n 3, 1) := by decide +kernel
theorem dL_law_854 : decode cL_law 854 = .ok (.iconst 1, 1) := by decide +kernel
theorem dL_law_855 : decode cL_law 855 = .ok (.iadd, 1) := by decide +kernel
theorem dL_law_856 : decode cL_law 856 = .ok (.iaload, 1) := by decide +kernel
theorem dL_law_857 : decode cL_law 857 = .ok (.invokevirtual 102, 3) := by decide +kernel
theorem dL_law_860 : decode cL_law 860 = .ok (.if_icmp .eq 516, 3) := by decide +kernel
theorem dL_law_863 : decode cL_law 863 = .ok (.iconst 0, 1) := by decide +kernel
theorem dL_law_864 : decode cL_law 864 = .ok (.ireturn, 1) := by decide +kernel
theorem dL_law_865 : decode cL_law 865 = .ok (.aload_n 1, 1) := by decide +kernel
theorem dL_law_866 : decode cL_law 866 = .ok (.aload_n 0, 1) := by decide +kernel
theorem dL_law_867 : decode cL_law 867 = .ok (.iload_n 3, 1) := by decide +kernel
theorem dL_law_868 : decode cL_law 868 = .ok (.iconst 1, 1) := by decide +kernel
theorem dL_law_869 : decode cL_law 869 = .ok (.iadd, 1) := by decide +kernel
theorem dL_law_870 : decode cL_law 870 = .ok (.iaload, 1) := by decide +kernel
theorem dL_law_871 : decode cL_law 871 = .ok (.aload_n 0, 1) := by decide +kernel
theorem dL_law_872 : decode cL_law 872 = .ok (.iload_n 3, 1) := by decide +kernel
theorem dL_law_873 : decode cL_law 873 = .ok (.iconst 2, 1) := by decide +kernel
theorem dL_law_874 : decode cL_law 874 = .ok (.iadd, 1) := by decide +kernel
theorem dL_law_875 : decode cL_law 875 = .ok (.iaload, 1) := by decide +kernel
theorem dL_law_876 : decode cL_law 876 = .ok (.invokevirtual 103, 3) := by decide +kernel
theorem dL_law_879 : decode cL_law 879 = .ok (.aload_n 2, 1) := by decide +kernel
theorem dL_law_880 : decode cL_law 880 = .ok (.aload_n 0, 1) := by decide +kernel
theorem dL_law_881 : decode cL_law 881 = .ok (.iload_n 3, 1) := by decide +kernel
theorem dL_law_882 : decode cL_law 882 = .ok (.iconst 1, 1) := by decide +kernel
theorem dL_law_883 : decode cL_law 883 = .ok (.iadd, 1) := by decide +kernel
theorem dL_law_884 : decode cL_law 884 = .ok (.iaload, 1) := by decide +kernel
theorem dL_law_885 : decode cL_law 885 = .ok (.aload_n 0, 1) := by decide +kernel
theorem dL_law_886 : decode cL_law 886 = .ok (.iload_n 3, 1) := by decide +kernel
theorem dL_law_887 : decode cL_law 887 = .ok (.iconst 2, 1) := by decide +kernel
theorem dL_law_888 : decode cL_law 888 = .ok (.iadd, 1) := by decide +kernel
theorem dL_law_889 : decode cL_law 889 = .ok (.iaload, 1) := by decide +kernel
theorem dL_law_890 : decode cL_law 890 = .ok (.invokevirtual 106, 3) := by decide +kernel
theorem dL_law_893 : decode cL_law 893 = .ok (.if_icmp .eq 483, 3) := by decide +kernel
theorem dL_law_896 : decode cL_law 896 = .ok (.iconst 0, 1) := by decide +kernel
theorem dL_law_897 : decode cL_law 897 = .ok (.ireturn, 1) := by decide +kernel
theorem dL_law_898 : decode cL_law 898 = .ok (.aload_n 1, 1) := by decide +kernel
theorem dL_law_899 : decode cL_law 899 = .ok (.aload_n 0, 1) := by decide +kernel
theorem dL_law_900 : decode cL_law 900 = .ok (.iload_n 3, 1) := by decide +kernel
theorem dL_law_901 : decode cL_law 901 = .ok (.iconst 1, 1) := by decide +kernel
theorem dL_law_902 : decode cL_law 902 = .ok (.iadd, 1) := by decide +kernel
theorem dL_law_903 : decode cL_law 903 = .ok (.iaload, 1) := by decide +kernel
theorem dL_law_904 : decode cL_law 904 = .ok (.invokevirtual 107, 3) := by decide +kernel
theorem dL_law_907 : decode cL_law 907 = .ok (.aload_n 2, 1) := by decide +kernel
theorem dL_law_908 : decode cL_law 908 = .ok (.aload_n 0, 1) := by decide +kernel
theorem dL_law_909 : decode cL_law 909 = .ok (.iload_n 3, 1) := by decide +kernel
theorem dL_law_910 : decode cL_law 910 = .ok (.iconst 1, 1) := by decide +kernel
theorem dL_law_911 : decode cL_law 911 = .ok (.iadd, 1) := by decide +kernel
theorem dL_law_912 : decode cL_law 912 = .ok (.iaload, 1) := by decide +kernel
theorem dL_law_913 : decode cL_law 913 = .ok (.invokevirtual 110, 3) := by decide +kernel
end
section
theorem dL_law_916 : decode cL_law 916 = .ok (.if_icmp .eq 460, 3) := by decide +kernel
theorem dL_law_919 : decode cL_law 919 = .ok (.iconst 0, 1) := by decide +kernel
theorem dL_law_920 : decode cL_law 920 = .ok (.ireturn, 1) := by decide +kernel
theorem dL_law_921 : decode cL_law 921 = .ok (.aload_n 1, 1) := by decide +kernel
theorem dL_law_922 : decode cL_law 922 = .ok (.aload_n 0, 1) := by decide +kernel
theorem dL_law_923 : decode cL_law 923 = .ok (.iload_n 3, 1) := by decide +kernel
theorem dL_law_924 : decode cL_law 924 = .ok (.iconst 1, 1) := by decide +kernel
theorem dL_law_925 : decode cL_law 925 = .ok (.iadd, 1) := by decide +kernel
theorem dL_law_926 : decode cL_law 926 = .ok (.iaload, 1) := by decide +kernel
theorem dL_law_927 : decode cL_law 927 = .ok (.aload_n 0, 1) := by decide +kernel
theorem dL_law_928 : decode cL_law 928 = .ok (.iload_n 3, 1) := by decide +kernel
theorem dL_law_929 : decode cL_law 929 = .ok (.iconst 2, 1) := by decide +kernel
theorem dL_law_930 : decode cL_law 930 = .ok (.iadd, 1) := by decide +kernel
theorem dL_law_931 : decode cL_law 931 = .ok (.iaload, 1) := by decide +kernel
theorem dL_law_932 : decode cL_law 932 = .ok (.aload_n 0, 1) := by decide +kernel
theorem dL_law_933 : decode cL_law 933 = .ok (.iload_n 3, 1) := by decide +kernel
theorem dL_law_934 : decode cL_law 934 = .ok (.iconst 3, 1) := by decide +kernel
theorem dL_law_935 : decode cL_law 935 = .ok (.iadd, 1) := by decide +kernel
theorem dL_law_936 : decode cL_law 936 = .ok (.iaload, 1) := by decide +kernel
theorem dL_law_937 : decode cL_law 937 = .ok (.invokevirtual 111, 3) := by decide +kernel
theorem dL_law_940 : decode cL_law 940 = .ok (.aload_n 2, 1) := by decide +kernel
theorem dL_law_941 : decode cL_law 941 = .ok (.aload_n 0, 1) := by decide +kernel
theorem dL_law_942 : decode cL_law 942 = .ok (.iload_n 3, 1) := by decide +kernel
theorem dL_law_943 : decode cL_law 943 = .ok (.iconst 1, 1) := by decide +kernel
theorem dL_law_944 : decode cL_law 944 = .ok (.iadd, 1) := by decide +kernel
theorem dL_law_945 : decode cL_law 945 = .ok (.iaload, 1) := by decide +kernel
theorem dL_law_946 : decode cL_law 946 = .ok (.aload_n 0, 1) := by decide +kernel
theorem dL_law_947 : decode cL_law 947 = .ok (.iload_n 3, 1) := by decide +kernel
theorem dL_law_948 : decode cL_law 948 = .ok (.iconst 2, 1) := by decide +kernel
theorem dL_law_949 : decode cL_law 949 = .ok (.iadd, 1) := by decide +kernel
theorem dL_law_950 : decode cL_law 950 = .ok (.iaload, 1) := by decide +kernel
theorem dL_law_951 : decode cL_law 951 = .ok (.aload_n 0, 1) := by decide +kernel
theorem dL_law_952 : decode cL_law 952 = .ok (.iload_n 3, 1) := by decide +kernel
theorem dL_law_953 : decode cL_law 953 = .ok (.iconst 3, 1) := by decide +kernel
theorem dL_law_954 : decode cL_law 954 = .ok (.iadd, 1) := by decide +kernel
theorem dL_law_955 : decode cL_law 955 = .ok (.iaload, 1) := by decide +kernel
theorem dL_law_956 : decode cL_law 956 = .ok (.invokevirtual 114, 3) := by decide +kernel
theorem dL_law_959 : decode cL_law 959 = .ok (.if_icmp .eq 417, 3) := by decide +kernel
theorem dL_law_962 : decode cL_law 962 = .ok (.iconst 0, 1) := by decide +kernel
theorem dL_law_963 : decode cL_law 963 = .ok (.ireturn, 1) := by decide +kernel
theorem dL_law_964 : decode cL_law 964 = .ok (.aload_n 1, 1) := by decide +kernel
theorem dL_law_965 : decode cL_law 965 = .ok (.aload_n 0, 1) := by decide +kernel
theorem dL_law_966 : decode cL_law 966 = .ok (.iload_n 3, 1) := by decide +kernel
theorem dL_law_967 : decode cL_law 967 = .ok (.iconst 1, 1) := by decide +kernel
theorem dL_law_968 : decode cL_law 968 = .ok (.iadd, 1) := by decide +kernel
theorem dL_law_969 : decode cL_law 969 = .ok (.iaload, 1) := by decide +kernel
theorem dL_law_970 : decode cL_law 970 = .ok (.aload_n 0, 1) := by decide +kernel
theorem dL_law_971 : decode cL_law 971 = .ok (.iload_n 3, 1) := by decide +kernel
theorem dL_law_972 : decode cL_law 972 = .ok (.iconst 2, 1) := by decide +kernel
theorem dL_law_973 : decode cL_law 973 = .ok (.iadd, 1) := by decide +kernel
theorem dL_law_974 : decode cL_law 974 = .ok (.iaload, 1) := by decide +kernel
theorem dL_law_975 : decode cL_law 975 = .ok (.aload_n 0, 1) := by decide +kernel
theorem dL_law_976 : decode cL_law 976 = .ok (.iload_n 3, 1) := by decide +kernel
theorem dL_law_977 : decode cL_law 977 = .ok (.iconst 3, 1) := by decide +kernel
theorem dL_law_978 : decode cL_law 978 = .ok (.iadd, 1) := by decide +kernel
theorem dL_law_979 : decode cL_law 979 = .ok (.iaload, 1) := by decide +kernel
theorem dL_law_980 : decode cL_law 980 = .ok (.invokevirtual 115, 3) := by decide +kernel
theorem dL_law_983 : decode cL_law 983 = .ok (.aload_n 2, 1) := by decide +kernel
theorem dL_law_984 : decode cL_law 984 = .ok (.aload_n 0, 1) := by decide +kernel
theorem dL_law_985 : decode cL_law 985 = .ok (.iload_n 3, 1) := by decide +kernel
theorem dL_law_986 : decode cL_law 986 = .ok (.iconst 1, 1) := by decide +kernel
theorem dL_law_987 : decode cL_law 987 = .ok (.iadd, 1) := by decide +kernel
theorem dL_law_988 : decode cL_law 988 = .ok (.iaload, 1) := by decide +kernel
theorem dL_law_989 : decode cL_law 989 = .ok (.aload_n 0, 1) := by decide +kernel
theorem dL_law_990 : decode cL_law 990 = .ok (.iload_n 3, 1) := by decide +kernel
theorem dL_law_991 : decode cL_law 991 = .ok (.iconst 2, 1) := by decide +kernel
theorem dL_law_992 : decode cL_law 992 = .ok (.iadd, 1) := by decide +kernel
theorem dL_law_993 : decode cL_law 993 = .ok (.iaload, 1) := by decide +kernel
theorem dL_law_994 : decode cL_law 994 = .ok (.aload_n 0, 1) := by decide +kernel
theorem dL_law_995 : decode cL_law 995 = .ok (.iload_n 3, 1) := by decide +kernel
theorem dL_law_996 : decode cL_law 996 = .ok (.iconst 3, 1) := by decide +kernel
theorem dL_law_997 : decode cL_law 997 = .ok (.iadd, 1) := by decide +kernel
theorem dL_law_998 : decode cL_law 998 = .ok (.iaload, 1) := by decide +kernel
theorem dL_law_999 : decode cL_law 999 = .ok (.invokevirtual 118, 3) := by decide +kernel
theorem dL_law_1002 : decode cL_law 1002 = .ok (.if_icmp .eq 374, 3) := by decide +kernel
theorem dL_law_1005 : decode cL_law 1005 = .ok (.iconst 0, 1) := by decide +kernel
theorem dL_law_1006 : decode cL_law 1006 = .ok (.ireturn, 1) := by decide +kernel
theorem dL_law_1007 : decode cL_law 1007 = .ok (.aload_n 1, 1) := by decide +kernel
theorem dL_law_1008 : decode cL_law 1008 = .ok (.aload_n 0, 1) := by decide +kernel
theorem dL_law_1009 : decode cL_law 1009 = .ok (.iload_n 3, 1) := by decide +kernel
theorem dL_law_1010 : decode cL_law 1010 = .ok (.iconst 1, 1) := by decide +kernel
theorem dL_law_1011 : decode cL_law 1011 = .ok (.iadd, 1) := by decide +kernel
theorem dL_law_1012 : decode cL_law 1012 = .ok (.iaload, 1) := by decide +kernel
theorem dL_law_1013 : decode cL_law 1013 = .ok (.aload_n 0, 1) := by decide +kernel
theorem dL_law_1014 : decode cL_law 1014 = .ok (.iload_n 3, 1) := by decide +kernel
theorem dL_law_1015 : decode cL_law 1015 = .ok (.iconst 2, 1) := by decide +kernel
theorem dL_law_1016 : decode cL_law 1016 = .ok (.iadd, 1) := by decide +kernel
theorem dL_law_1017 : decode cL_law 1017 = .ok (.iaload, 1) := by decide +kernel
theorem dL_law_1018 : decode cL_law 1018 = .ok (.aload_n 0, 1) := by decide +kernel
theorem dL_law_1019 : decode cL_law 1019 = .ok (.iload_n 3, 1) := by decide +kernel
theorem dL_law_1020 : decode cL_law 1020 = .ok (.iconst 3, 1) := by decide +kernel
theorem dL_law_1021 : decode cL_law 1021 = .ok (.iadd, 1) := by decide +kernel
theorem dL_law_1022 : decode cL_law 1022 = .ok (.iaload, 1) := by decide +kernel
theorem dL_law_1023 : decode cL_law 1023 = .ok (.invokevirtual 119, 3) := by decide +kernel
theorem dL_law_1026 : decode cL_law 1026 = .ok (.aload_n 2, 1) := by decide +kernel
theorem dL_law_1027 : decode cL_law 1027 = .ok (.aload_n 0, 1) := by decide +kernel
theorem dL_law_1028 : decode cL_law 1028 = .ok (.iload_n 3, 1) := by decide +kernel
theorem dL_law_1029 : decode cL_law 1029 = .ok (.iconst 1, 1) := by decide +kernel
theorem dL_law_1030 : decode cL_law 1030 = .ok (.iadd, 1) := by decide +kernel
theorem dL_law_1031 : decode cL_law 1031 = .ok (.iaload, 1) := by decide +kernel
theorem dL_law_1032 : decode cL_law 1032 = .ok (.aload_n 0, 1) := by decide +kernel
theorem dL_law_1033 : decode cL_law 1033 = .ok (.iload_n 3, 1) := by decide +kernel
theorem dL_law_1034 : decode cL_law 1034 = .ok (.iconst 2, 1) := by decide +kernel
theorem dL_law_1035 : decode cL_law 1035 = .ok (.iadd, 1) := by decide +kernel
theorem dL_law_1036 : decode cL_law 1036 = .ok (.iaload, 1) := by decide +kernel
theorem dL_law_1037 : decode cL_law 1037 = .ok (.aload_n 0, 1) := by decide +kernel
theorem dL_law_1038 : decode cL_law 1038 = .ok (.iload_n 3, 1) := by decide +kernel
theorem dL_law_1039 : decode cL_law 1039 = .ok (.iconst 3, 1) := by decide +kernel
theorem dL_law_1040 : decode cL_law 1040 = .ok (.iadd, 1) := by decide +kernel
theorem dL_law_1041 : decode cL_law 1041 = .ok (.iaload, 1) := by decide +kernel
theorem dL_law_1042 : decode cL_law 1042 = .ok (.invokevirtual 122, 3) := by decide +kernel
theorem dL_law_1045 : decode cL_law 1045 = .ok (.if_icmp .eq 331, 3) := by decide +kernel
theorem dL_law_1048 : decode cL_law 1048 = .ok (.iconst 0, 1) := by decide +kernel
theorem dL_law_1049 : decode cL_law 1049 = .ok (.ireturn, 1) := by decide +kernel
theorem dL_law_1050 : decode cL_law 1050 = .ok (.aload_n 1, 1) := by decide +kernel
theorem dL_law_1051 : decode cL_law 1051 = .ok (.aload_n 0, 1) := by decide +kernel
theorem dL_law_1052 : decode cL_law 1052 = .ok (.iload_n 3, 1) := by decide +kernel
theorem dL_law_1053 : decode cL_law 1053 = .ok (.iconst 1, 1) := by decide +kernel
theorem dL_law_1054 : decode cL_law 1054 = .ok (.iadd, 1) := by decide +kernel
theorem dL_law_1055 : decode cL_law 1055 = .ok (.iaload, 1) := by decide +kernel
theorem dL_law_1056 : decode cL_law 1056 = .ok (.invokevirtual 123, 3) := by decide +kernel
theorem dL_law_1059 : decode cL_law 1059 = .ok (.aload_n 2, 1) := by decide +kernel
theorem dL_law_1060 : decode cL_law 1060 = .ok (.aload_n 0, 1) := by decide +kernel
theorem dL_law_1061 : decode cL_law 1061 = .ok (.iload_n 3, 1) := by decide +kernel
theorem dL_law_1062 : decode cL_law 1062 = .ok (.iconst 1, 1) := by decide +kernel
theorem dL_law_1063 : decode cL_law 1063 = .ok (.iadd, 1) := by decide +kernel
theorem dL_law_1064 : decode cL_law 1064 = .ok (.iaload, 1) := by decide +kernel
theorem dL_law_1065 : decode cL_law 1065 = .ok (.invokevirtual 126, 3) := by decide +kernel
theorem dL_law_1068 : decode cL_law 1068 = .ok (.if_icmp .eq 308, 3) := by decide +kernel
theorem dL_law_1071 : decode cL_law 1071 = .ok (.iconst 0, 1) := by decide +kernel
theorem dL_law_1072 : decode cL_law 1072 = .ok (.ireturn, 1) := by decide +kernel
theorem dL_law_1073 : decode cL_law 1073 = .ok (.aload_n 1, 1) := by decide +kernel
theorem dL_law_1074 : decode cL_law 1074 = .ok (.aload_n 0, 1) := by decide +kernel
theorem dL_law_1075 : decode cL_law 1075 = .ok (.iload_n 3, 1) := by decide +kernel
theorem dL_law_1076 : decode cL_law 1076 = .ok (.iconst 1, 1) := by decide +kernel
theorem dL_law_1077 : decode cL_law 1077 = .ok (.iadd, 1) := by decide +kernel
theorem dL_law_1078 : decode cL_law 1078 = .ok (.iaload, 1) := by decide +kernel
theorem dL_law_1079 : decode cL_law 1079 = .ok (.invokevirtual 127, 3) := by decide +kernel
theorem dL_law_1082 : decode cL_law 1082 = .ok (.aload_n 2, 1) := by decide +kernel
theorem dL_law_1083 : decode cL_law 1083 = .ok (.aload_n 0, 1) := by decide +kernel
theorem dL_law_1084 : decode cL_law 1084 = .ok (.iload_n 3, 1) := by decide +kernel
theorem dL_law_1085 : decode cL_law 1085 = .ok (.iconst 1, 1) := by decide +kernel
theorem dL_law_1086 : decode cL_law 1086 = .ok (.iadd, 1) := by decide +kernel
theorem dL_law_1087 : decode cL_law 1087 = .ok (.iaload, 1) := by decide +kernel
theorem dL_law_1088 : decode cL_law 1088 = .ok (.invokevirtual 130, 3) := by decide +kernel
theorem dL_law_1091 : decode cL_law 1091 = .ok (.if_icmp .eq 285, 3) := by decide +kernel
theorem dL_law_1094 : decode cL_law 1094 = .ok (.iconst 0, 1) := by decide +kernel
theorem dL_law_1095 : decode cL_law 1095 = .ok (.ireturn, 1) := by decide +kernel
theorem dL_law_1096 : decode cL_law 1096 = .ok (.aload_n 1, 1) := by decide +kernel
theorem dL_law_1097 : decode cL_law 1097 = .ok (.aload_n 0, 1) := by decide +kernel
theorem dL_law_1098 : decode cL_law 1098 = .ok (.iload_n 3, 1) := by decide +kernel
theorem dL_law_1099 : decode cL_law 1099 = .ok (.iconst 1, 1) := by decide +kernel
theorem dL_law_1100 : decode cL_law 1100 = .ok (.iadd, 1) := by decide +kernel
theorem dL_law_1101 : decode cL_law 1101 = .ok (.iaload, 1) := by decide +kernel
theorem dL_law_1102 : decode cL_law 1102 = .ok (.aload_n 0, 1) := by decide +kernel
theorem dL_law_1103 : decode cL_law 1103 = .ok (.iload_n 3, 1) := by decide +kernel
theorem dL_law_1104 : decode cL_law 1104 = .ok (.iconst 2, 1) := by decide +kernel
theorem dL_law_1105 : decode cL_law 1105 = .ok (.iadd, 1) := by decide +kernel
theorem dL_law_1106 : decode cL_law 1106 = .ok (.iaload, 1) := by decide +kernel
theorem dL_law_1107 : decode cL_law 1107 = .ok (.aload_n 0, 1) := by decide +kernel
theorem dL_law_1108 : decode cL_law 1108 = .ok (.iload_n 3, 1) := by decide +kernel
theorem dL_law_1109 : decode cL_law 1109 = .ok (.iconst 3, 1) := by decide +kernel
theorem dL_law_1110 : decode cL_law 1110 = .ok (.iadd, 1) := by decide +kernel
theorem dL_law_1111 : decode cL_law 1111 = .ok (.iaload, 1) := by decide +kernel
theorem dL_law_1112 : decode cL_law 1112 = .ok (.ifCond .eq 7, 3) := by decide +kernel
theorem dL_law_1115 : decode cL_law 1115 = .ok (.iconst 1, 1) := by decide +kernel
theorem dL_law_1116 : decode cL_law 1116 = .ok (.goto 4, 3) := by decide +kernel
theorem dL_law_1119 : decode cL_law 1119 = .ok (.iconst 0, 1) := by decide +kernel
theorem dL_law_1120 : decode cL_law 1120 = .ok (.invokevirtual 131, 3) := by decide +kernel
theorem dL_law_1123 : decode cL_law 1123 = .ok (.aload_n 2, 1) := by decide +kernel
theorem dL_law_1124 : decode cL_law 1124 = .ok (.aload_n 0, 1) := by decide +kernel
theorem dL_law_1125 : decode cL_law 1125 = .ok (.iload_n 3, 1) := by decide +kernel
theorem dL_law_1126 : decode cL_law 1126 = .ok (.iconst 1, 1) := by decide +kernel
theorem dL_law_1127 : decode cL_law 1127 = .ok (.iadd, 1) := by decide +kernel
theorem dL_law_1128 : decode cL_law 1128 = .ok (.iaload, 1) := by decide +kernel
theorem dL_law_1129 : decode cL_law 1129 = .ok (.aload_n 0, 1) := by decide +kernel
theorem dL_law_1130 : decode cL_law 1130 = .ok (.iload_n 3, 1) := by decide +kernel
theorem dL_law_1131 : decode cL_law 1131 = .ok (.iconst 2, 1) := by decide +kernel
theorem dL_law_1132 : decode cL_law 1132 = .ok (.iadd, 1) := by decide +kernel
theorem dL_law_1133 : decode cL_law 1133 = .ok (.iaload, 1) := by decide +kernel
theorem dL_law_1134 : decode cL_law 1134 = .ok (.aload_n 0, 1) := by decide +kernel
theorem dL_law_1135 : decode cL_law 1135 = .ok (.iload_n 3, 1) := by decide +kernel
theorem dL_law_1136 : decode cL_law 1136 = .ok (.iconst 3, 1) := by decide +kernel
theorem dL_law_1137 : decode cL_law 1137 = .ok (.iadd, 1) := by decide +kernel
theorem dL_law_1138 : decode cL_law 1138 = .ok (.iaload, 1) := by decide +kernel
theorem dL_law_1139 : decode cL_law 1139 = .ok (.ifCond .eq 7, 3) := by decide +kernel
theorem dL_law_1142 : decode cL_law 1142 = .ok (.iconst 1, 1) := by decide +kernel
theorem dL_law_1143 : decode cL_law 1143 = .ok (.goto 4, 3) := by decide +kernel
theorem dL_law_1146 : decode cL_law 1146 = .ok (.iconst 0, 1) := by decide +kernel
theorem dL_law_1147 : decode cL_law 1147 = .ok (.invokevirtual 135, 3) := by decide +kernel
theorem dL_law_1150 : decode cL_law 1150 = .ok (.if_icmp .eq 226, 3) := by decide +kernel
theorem dL_law_1153 : decode cL_law 1153 = .ok (.iconst 0, 1) := by decide +kernel
theorem dL_law_1154 : decode cL_law 1154 = .ok (.ireturn, 1) := by decide +kernel
theorem dL_law_1155 : decode cL_law 1155 = .ok (.aload_n 1, 1) := by decide +kernel
theorem dL_law_1156 : decode cL_law 1156 = .ok (.aload_n 0, 1) := by decide +kernel
theorem dL_law_1157 : decode cL_law 1157 = .ok (.iload_n 3, 1) := by decide +kernel
theorem dL_law_1158 : decode cL_law 1158 = .ok (.iconst 1, 1) := by decide +kernel
theorem dL_law_1159 : decode cL_law 1159 = .ok (.iadd, 1) := by decide +kernel
theorem dL_law_1160 : decode cL_law 1160 = .ok (.iaload, 1) := by decide +kernel
theorem dL_law_1161 : decode cL_law 1161 = .ok (.aload_n 0, 1) := by decide +kernel
theorem dL_law_1162 : decode cL_law 1162 = .ok (.iload_n 3, 1) := by decide +kernel
theorem dL_law_1163 : decode cL_law 1163 = .ok (.iconst 2, 1) := by decide +kernel
theorem dL_law_1164 : decode cL_law 1164 = .ok (.iadd, 1) := by decide +kernel
theorem dL_law_1165 : decode cL_law 1165 = .ok (.iaload, 1) := by decide +kernel
theorem dL_law_1166 : decode cL_law 1166 = .ok (.invokevirtual 136, 3) := by decide +kernel
theorem dL_law_1169 : decode cL_law 1169 = .ok (.aload_n 2, 1) := by decide +kernel
theorem dL_law_1170 : decode cL_law 1170 = .ok (.aload_n 0, 1) := by decide +kernel
theorem dL_law_1171 : decode cL_law 1171 = .ok (.iload_n 3, 1) := by decide +kernel
theorem dL_law_1172 : decode cL_law 1172 = .ok (.iconst 1, 1) := by decide +kernel
theorem dL_law_1173 : decode cL_law 1173 = .ok (.iadd, 1) := by decide +kernel
theorem dL_law_1174 : decode cL_law 1174 = .ok (.iaload, 1) := by decide +kernel
theorem dL_law_1175 : decode cL_law 1175 = .ok (.aload_n 0, 1) := by decide +kernel
theorem dL_law_1176 : decode cL_law 1176 = .ok (.iload_n 3, 1) := by decide +kernel
theorem dL_law_1177 : decode cL_law 1177 = .ok (.iconst 2, 1) := by decide +kernel
theorem dL_law_1178 : decode cL_law 1178 = .ok (.iadd, 1) := by decide +kernel
theorem dL_law_1179 : decode cL_law 1179 = .ok (.iaload, 1) := by decide +kernel
theorem dL_law_1180 : decode cL_law 1180 = .ok (.invokevirtual 139, 3) := by decide +kernel
theorem dL_law_1183 : decode cL_law 1183 = .ok (.if_icmp .eq 193, 3) := by decide +kernel
theorem dL_law_1186 : decode cL_law 1186 = .ok (.iconst 0, 1) := by decide +kernel
theorem dL_law_1187 : decode cL_law 1187 = .ok (.ireturn, 1) := by decide +kernel
theorem dL_law_1188 : decode cL_law 1188 = .ok (.aload_n 1, 1) := by decide +kernel
theorem dL_law_1189 : decode cL_law 1189 = .ok (.aload_n 0, 1) := by decide +kernel
theorem dL_law_1190 : decode cL_law 1190 = .ok (.iload_n 3, 1) := by decide +kernel
theorem dL_law_1191 : decode cL_law 1191 = .ok (.iconst 1, 1) := by decide +kernel
theorem dL_law_1192 : decode cL_law 1192 = .ok (.iadd, 1) := by decide +kernel
theorem dL_law_1193 : decode cL_law 1193 = .ok (.iaload, 1) := by decide +kernel
theorem dL_law_1194 : decode cL_law 1194 = .ok (.aload_n 0, 1) := by decide +kernel
theorem dL_law_1195 : decode cL_law 1195 = .ok (.iload_n 3, 1) := by decide +kernel
theorem dL_law_1196 : decode cL_law 1196 = .ok (.iconst 2, 1) := by decide +kernel
theorem dL_law_1197 : decode cL_law 1197 = .ok (.iadd, 1) := by decide +kernel
theorem dL_law_1198 : decode cL_law 1198 = .ok (.iaload, 1) := by decide +kernel
theorem dL_law_1199 : decode cL_law 1199 = .ok (.invokevirtual 140, 3) := by decide +kernel
theorem dL_law_1202 : decode cL_law 1202 = .ok (.aload_n 2, 1) := by decide +kernel
theorem dL_law_1203 : decode cL_law 1203 = .ok (.aload_n 0, 1) := by decide +kernel
theorem dL_law_1204 : decode cL_law 1204 = .ok (.iload_n 3, 1) := by decide +kernel
theorem dL_law_1205 : decode cL_law 1205 = .ok (.iconst 1, 1) := by decide +kernel
theorem dL_law_1206 : decode cL_law 1206 = .ok (.iadd, 1) := by decide +kernel
theorem dL_law_1207 : decode cL_law 1207 = .ok (.iaload, 1) := by decide +kernel
theorem dL_law_1208 : decode cL_law 1208 = .ok (.aload_n 0, 1) := by decide +kernel
theorem dL_law_1209 : decode cL_law 1209 = .ok (.iload_n 3, 1) := by decide +kernel
theorem dL_law_1210 : decode cL_law 1210 = .ok (.iconst 2, 1) := by decide +kernel
theorem dL_law_1211 : decode cL_law 1211 = .ok (.iadd, 1) := by decide +kernel
theorem dL_law_1212 : decode cL_law 1212 = .ok (.iaload, 1) := by decide +kernel
theorem dL_law_1213 : decode cL_law 1213 = .ok (.invokevirtual 143, 3) := by decide +kernel
theorem dL_law_1216 : decode cL_law 1216 = .ok (.if_icmp .eq 160, 3) := by decide +kernel
theorem dL_law_1219 : decode cL_law 1219 = .ok (.iconst 0, 1) := by decide +kernel
theorem dL_law_1220 : decode cL_law 1220 = .ok (.ireturn, 1) := by decide +kernel
theorem dL_law_1221 : decode cL_law 1221 = .ok (.aload_n 1, 1) := by decide +kernel
theorem dL_law_1222 : decode cL_law 1222 = .ok (.aload_n 0, 1) := by decide +kernel
theorem dL_law_1223 : decode cL_law 1223 = .ok (.iload_n 3, 1) := by decide +kernel
theorem dL_law_1224 : decode cL_law 1224 = .ok (.iconst 1, 1) := by decide +kernel
theorem dL_law_1225 : decode cL_law 1225 = .ok (.iadd, 1) := by decide +kernel
theorem dL_law_1226 : decode cL_law 1226 = .ok (.iaload, 1) := by decide +kernel
theorem dL_law_1227 : decode cL_law 1227 = .ok (.aload_n 0, 1) := by decide +kernel
theorem dL_law_1228 : decode cL_law 1228 = .ok (.iload_n 3, 1) := by decide +kernel
theorem dL_law_1229 : decode cL_law 1229 = .ok (.iconst 2, 1) := by decide +kernel
theorem dL_law_1230 : decode cL_law 1230 = .ok (.iadd, 1) := by decide +kernel
theorem dL_law_1231 : decode cL_law 1231 = .ok (.iaload, 1) := by decide +kernel
theorem dL_law_1232 : decode cL_law 1232 = .ok (.invokevirtual 144, 3) := by decide +kernel
theorem dL_law_1235 : decode cL_law 1235 = .ok (.aload_n 2, 1) := by decide +kernel
theorem dL_law_1236 : decode cL_law 1236 = .ok (.aload_n 0, 1) := by decide +kernel
theorem dL_law_1237 : decode cL_law 1237 = .ok (.iload_n 3, 1) := by decide +kernel
theorem dL_law_1238 : decode cL_law 1238 = .ok (.iconst 1, 1) := by decide +kernel
theorem dL_law_1239 : decode cL_law 1239 = .ok (.iadd, 1) := by decide +kernel
theorem dL_law_1240 : decode cL_law 1240 = .ok (.iaload, 1) := by decide +kernel
theorem dL_law_1241 : decode cL_law 1241 = .ok (.aload_n 0, 1) := by decide +kernel
theorem dL_law_1242 : decode cL_law 1242 = .ok (.iload_n 3, 1) := by decide +kernel
theorem dL_law_1243 : decode cL_law 1243 = .ok (.iconst 2, 1) := by decide +kernel
theorem dL_law_1244 : decode cL_law 1244 = .ok (.iadd, 1) := by decide +kernel
theorem dL_law_1245 : decode cL_law 1245 = .ok (.iaload, 1) := by decide +kernel
theorem dL_law_1246 : decode cL_law 1246 = .ok (.invokevirtual 147, 3) := by decide +kernel
theorem dL_law_1249 : decode cL_law 1249 = .ok (.if_icmp .eq 127, 3) := by decide +kernel
theorem dL_law_1252 : decode cL_law 1252 = .ok (.iconst 0, 1) := by decide +kernel
theorem dL_law_1253 : decode cL_law 1253 = .ok (.ireturn, 1) := by decide +kernel
theorem dL_law_1254 : decode cL_law 1254 = .ok (.aload_n 1, 1) := by decide +kernel
theorem dL_law_1255 : decode cL_law 1255 = .ok (.aload_n 0, 1) := by decide +kernel
theorem dL_law_1256 : decode cL_law 1256 = .ok (.iload_n 3, 1) := by decide +kernel
theorem dL_law_1257 : decode cL_law 1257 = .ok (.iconst 1, 1) := by decide +kernel
theorem dL_law_1258 : decode cL_law 1258 = .ok (.iadd, 1) := by decide +kernel
theorem dL_law_1259 : decode cL_law 1259 = .ok (.iaload, 1) := by decide +kernel
theorem dL_law_1260 : decode cL_law 1260 = .ok (.aload_n 0, 1) := by decide +kernel
theorem dL_law_1261 : decode cL_law 1261 = .ok (.iload_n 3, 1) := by decide +kernel
theorem dL_law_1262 : decode cL_law 1262 = .ok (.iconst 2, 1) := by decide +kernel
theorem dL_law_1263 : decode cL_law 1263 = .ok (.iadd, 1) := by decide +kernel
theorem dL_law_1264 : decode cL_law 1264 = .ok (.iaload, 1) := by decide +kernel
theorem dL_law_1265 : decode cL_law 1265 = .ok (.invokevirtual 148, 3) := by decide +kernel
theorem dL_law_1268 : decode cL_law 1268 = .ok (.aload_n 2, 1) := by decide +kernel
theorem dL_law_1269 : decode cL_law 1269 = .ok (.aload_n 0, 1) := by decide +kernel
theorem dL_law_1270 : decode cL_law 1270 = .ok (.iload_n 3, 1) := by decide +kernel
theorem dL_law_1271 : decode cL_law 1271 = .ok (.iconst 1, 1) := by decide +kernel
theorem dL_law_1272 : decode cL_law 1272 = .ok (.iadd, 1) := by decide +kernel
theorem dL_law_1273 : decode cL_law 1273 = .ok (.iaload, 1) := by decide +kernel
theorem dL_law_1274 : decode cL_law 1274 = .ok (.aload_n 0, 1) := by decide +kernel
theorem dL_law_1275 : decode cL_law 1275 = .ok (.iload_n 3, 1) := by decide +kernel
theorem dL_law_1276 : decode cL_law 1276 = .ok (.iconst 2, 1) := by decide +kernel
theorem dL_law_1277 : decode cL_law 1277 = .ok (.iadd, 1) := by decide +kernel
theorem dL_law_1278 : decode cL_law 1278 = .ok (.iaload, 1) := by decide +kernel
theorem dL_law_1279 : decode cL_law 1279 = .ok (.invokevirtual 151, 3) := by decide +kernel
theorem dL_law_1282 : decode cL_law 1282 = .ok (.if_icmp .eq 94, 3) := by decide +kernel
theorem dL_law_1285 : decode cL_law 1285 = .ok (.iconst 0, 1) := by decide +kernel
theorem dL_law_1286 : decode cL_law 1286 = .ok (.ireturn, 1) := by decide +kernel
theorem dL_law_1287 : decode cL_law 1287 = .ok (.aload_n 1, 1) := by decide +kernel
theorem dL_law_1288 : decode cL_law 1288 = .ok (.aload_n 0, 1) := by decide +kernel
theorem dL_law_1289 : decode cL_law 1289 = .ok (.iload_n 3, 1) := by decide +kernel
theorem dL_law_1290 : decode cL_law 1290 = .ok (.iconst 1, 1) := by decide +kernel
theorem dL_law_1291 : decode cL_law 1291 = .ok (.iadd, 1) := by decide +kernel
theorem dL_law_1292 : decode cL_law 1292 = .ok (.iaload, 1) := by decide +kernel
theorem dL_law_1293 : decode cL_law 1293 = .ok (.aload_n 0, 1) := by decide +kernel
theorem dL_law_1294 : decode cL_law 1294 = .ok (.iload_n 3, 1) := by decide +kernel
theorem dL_law_1295 : decode cL_law 1295 = .ok (.iconst 2, 1) := by decide +kernel
theorem dL_law_1296 : decode cL_law 1296 = .ok (.iadd, 1) := by decide +kernel
theorem dL_law_1297 : decode cL_law 1297 = .ok (.iaload, 1) := by decide +kernel
theorem dL_law_1298 : decode cL_law 1298 = .ok (.invokevirtual 152, 3) := by decide +kernel
theorem dL_law_1301 : decode cL_law 1301 = .ok (.aload_n 2, 1) := by decide +kernel
theorem dL_law_1302 : decode cL_law 1302 = .ok (.aload_n 0, 1) := by decide +kernel
theorem dL_law_1303 : decode cL_law 1303 = .ok (.iload_n 3, 1) := by decide +kernel
theorem dL_law_1304 : decode cL_law 1304 = .ok (.iconst 1, 1) := by decide +kernel
theorem dL_law_1305 : decode cL_law 1305 = .ok (.iadd, 1) := by decide +kernel
theorem dL_law_1306 : decode cL_law 1306 = .ok (.iaload, 1) := by decide +kernel
theorem dL_law_1307 : decode cL_law 1307 = .ok (.aload_n 0, 1) := by decide +kernel
theorem dL_law_1308 : decode cL_law 1308 = .ok (.iload_n 3, 1) := by decide +kernel
theorem dL_law_1309 : decode cL_law 1309 = .ok (.iconst 2, 1) := by decide +kernel
theorem dL_law_1310 : decode cL_law 1310 = .ok (.iadd, 1) := by decide +kernel
theorem dL_law_1311 : decode cL_law 1311 = .ok (.iaload, 1) := by decide +kernel
theorem dL_law_1312 : decode cL_law 1312 = .ok (.invokevirtual 155, 3) := by decide +kernel
theorem dL_law_1315 : decode cL_law 1315 = .ok (.if_icmp .eq 61, 3) := by decide +kernel
theorem dL_law_1318 : decode cL_law 1318 = .ok (.iconst 0, 1) := by decide +kernel
theorem dL_law_1319 : decode cL_law 1319 = .ok (.ireturn, 1) := by decide +kernel
theorem dL_law_1320 : decode cL_law 1320 = .ok (.aload_n 1, 1) := by decide +kernel
theorem dL_law_1321 : decode cL_law 1321 = .ok (.aload_n 0, 1) := by decide +kernel
theorem dL_law_1322 : decode cL_law 1322 = .ok (.iload_n 3, 1) := by decide +kernel
theorem dL_law_1323 : decode cL_law 1323 = .ok (.iconst 1, 1) := by decide +kernel
theorem dL_law_1324 : decode cL_law 1324 = .ok (.iadd, 1) := by decide +kernel
theorem dL_law_1325 : decode cL_law 1325 = .ok (.iaload, 1) := by decide +kernel
theorem dL_law_1326 : decode cL_law 1326 = .ok (.aload_n 0, 1) := by decide +kernel
theorem dL_law_1327 : decode cL_law 1327 = .ok (.iload_n 3, 1) := by decide +kernel
theorem dL_law_1328 : decode cL_law 1328 = .ok (.iconst 2, 1) := by decide +kernel
theorem dL_law_1329 : decode cL_law 1329 = .ok (.iadd, 1) := by decide +kernel
theorem dL_law_1330 : decode cL_law 1330 = .ok (.iaload, 1) := by decide +kernel
theorem dL_law_1331 : decode cL_law 1331 = .ok (.invokevirtual 156, 3) := by decide +kernel
theorem dL_law_1334 : decode cL_law 1334 = .ok (.aload_n 2, 1) := by decide +kernel
theorem dL_law_1335 : decode cL_law 1335 = .ok (.aload_n 0, 1) := by decide +kernel
theorem dL_law_1336 : decode cL_law 1336 = .ok (.iload_n 3, 1) := by decide +kernel
theorem dL_law_1337 : decode cL_law 1337 = .ok (.iconst 1, 1) := by decide +kernel
theorem dL_law_1338 : decode cL_law 1338 = .ok (.iadd, 1) := by decide +kernel
theorem dL_law_1339 : decode cL_law 1339 = .ok (.iaload, 1) := by decide +kernel
theorem dL_law_1340 : decode cL_law 1340 = .ok (.aload_n 0, 1) := by decide +kernel
theorem dL_law_1341 : decode cL_law 1341 = .ok (.iload_n 3, 1) := by decide +kernel
theorem dL_law_1342 : decode cL_law 1342 = .ok (.iconst 2, 1) := by decide +kernel
theorem dL_law_1343 : decode cL_law 1343 = .ok (.iadd, 1) := by decide +kernel
theorem dL_law_1344 : decode cL_law 1344 = .ok (.iaload, 1) := by decide +kernel
theorem dL_law_1345 : decode cL_law 1345 = .ok (.invokevirtual 159, 3) := by decide +kernel
theorem dL_law_1348 : decode cL_law 1348 = .ok (.if_icmp .eq 28, 3) := by decide +kernel
theorem dL_law_1351 : decode cL_law 1351 = .ok (.iconst 0, 1) := by decide +kernel
theorem dL_law_1352 : decode cL_law 1352 = .ok (.ireturn, 1) := by decide +kernel
theorem dL_law_1353 : decode cL_law 1353 = .ok (.aload_n 1, 1) := by decide +kernel
theorem dL_law_1354 : decode cL_law 1354 = .ok (.aload_n 0, 1) := by decide +kernel
theorem dL_law_1355 : decode cL_law 1355 = .ok (.iload_n 3, 1) := by decide +kernel
theorem dL_law_1356 : decode cL_law 1356 = .ok (.iconst 1, 1) := by decide +kernel
theorem dL_law_1357 : decode cL_law 1357 = .ok (.iadd, 1) := by decide +kernel
theorem dL_law_1358 : decode cL_law 1358 = .ok (.iaload, 1) := by decide +kernel
theorem dL_law_1359 : decode cL_law 1359 = .ok (.invokevirtual 160, 3) := by decide +kernel
theorem dL_law_1362 : decode cL_law 1362 = .ok (.aload_n 2, 1) := by decide +kernel
theorem dL_law_1363 : decode cL_law 1363 = .ok (.aload_n 0, 1) := by decide +kernel
theorem dL_law_1364 : decode cL_law 1364 = .ok (.iload_n 3, 1) := by decide +kernel
theorem dL_law_1365 : decode cL_law 1365 = .ok (.iconst 1, 1) := by decide +kernel
theorem dL_law_1366 : decode cL_law 1366 = .ok (.iadd, 1) := by decide +kernel
theorem dL_law_1367 : decode cL_law 1367 = .ok (.iaload, 1) := by decide +kernel
theorem dL_law_1368 : decode cL_law 1368 = .ok (.invokevirtual 163, 3) := by decide +kernel
theorem dL_law_1371 : decode cL_law 1371 = .ok (.if_icmp .eq 5, 3) := by decide +kernel
theorem dL_law_1374 : decode cL_law 1374 = .ok (.iconst 0, 1) := by decide +kernel
theorem dL_law_1375 : decode cL_law 1375 = .ok (.ireturn, 1) := by decide +kernel
theorem dL_law_1376 : decode cL_law 1376 = .ok (.iinc 3 6, 3) := by decide +kernel
theorem dL_law_1379 : decode cL_law 1379 = .ok (.goto (-1361), 3) := by decide +kernel
theorem dL_law_1382 : decode cL_law 1382 = .ok (.iconst 1, 1) := by decide +kernel
theorem dL_law_1383 : decode cL_law 1383 = .ok (.ireturn, 1) := by decide +kernel
theorem dX0_init_0 : decode cX0_init 0 = .ok (.aload_n 0, 1) := by decide +kernel
theorem dX0_init_1 : decode cX0_init 1 = .ok (.invokespecial 3, 3) := by decide +kernel
theorem dX0_init_4 : decode cX0_init 4 = .ok (.aload_n 0, 1) := by decide +kernel
theorem dX0_init_5 : decode cX0_init 5 = .ok (.iconst 4, 1) := by decide +kernel
theorem dX0_init_6 : decode cX0_init 6 = .ok (.newarray .int, 2) := by decide +kernel
theorem dX0_init_8 : decode cX0_init 8 = .ok (.putfield 9, 3) := by decide +kernel
theorem dX0_init_11 : decode cX0_init 11 = .ok (.aload_n 0, 1) := by decide +kernel
theorem dX0_init_12 : decode cX0_init 12 = .ok (.iconst 4, 1) := by decide +kernel
theorem dX0_init_13 : decode cX0_init 13 = .ok (.newarray .int, 2) := by decide +kernel
theorem dX0_init_15 : decode cX0_init 15 = .ok (.putfield 15, 3) := by decide +kernel
theorem dX0_init_18 : decode cX0_init 18 = .ok (.aload_n 0, 1) := by decide +kernel
theorem dX0_init_19 : decode cX0_init 19 = .ok (.iconst 4, 1) := by decide +kernel
theorem dX0_init_20 : decode cX0_init 20 = .ok (.newarray .int, 2) := by decide +kernel
theorem dX0_init_22 : decode cX0_init 22 = .ok (.putfield 18, 3) := by decide +kernel
theorem dX0_init_25 : decode cX0_init 25 = .ok (.aload_n 0, 1) := by decide +kernel
theorem dX0_init_26 : decode cX0_init 26 = .ok (.iconst 4, 1) := by decide +kernel
theorem dX0_init_27 : decode cX0_init 27 = .ok (.newarray .int, 2) := by decide +kernel
theorem dX0_init_29 : decode cX0_init 29 = .ok (.putfield 21, 3) := by decide +kernel
theorem dX0_init_32 : decode cX0_init 32 = .ok (.return_, 1) := by decide +kernel
theorem dX0_copyFrom_0 : decode cX0_copyFrom 0 = .ok (.aload_n 1, 1) := by decide +kernel
theorem dX0_copyFrom_1 : decode cX0_copyFrom 1 = .ok (.getfield 9, 3) := by decide +kernel
theorem dX0_copyFrom_4 : decode cX0_copyFrom 4 = .ok (.aload_n 0, 1) := by decide +kernel
theorem dX0_copyFrom_5 : decode cX0_copyFrom 5 = .ok (.getfield 9, 3) := by decide +kernel
theorem dX0_copyFrom_8 : decode cX0_copyFrom 8 = .ok (.invokestatic 24, 3) := by decide +kernel
theorem dX0_copyFrom_11 : decode cX0_copyFrom 11 = .ok (.aload_n 1, 1) := by decide +kernel
theorem dX0_copyFrom_12 : decode cX0_copyFrom 12 = .ok (.getfield 15, 3) := by decide +kernel
theorem dX0_copyFrom_15 : decode cX0_copyFrom 15 = .ok (.aload_n 0, 1) := by decide +kernel
theorem dX0_copyFrom_16 : decode cX0_copyFrom 16 = .ok (.getfield 15, 3) := by decide +kernel
theorem dX0_copyFrom_19 : decode cX0_copyFrom 19 = .ok (.invokestatic 24, 3) := by decide +kernel
theorem dX0_copyFrom_22 : decode cX0_copyFrom 22 = .ok (.aload_n 1, 1) := by decide +kernel
theorem dX0_copyFrom_23 : decode cX0_copyFrom 23 = .ok (.getfield 18, 3) := by decide +kernel
theorem dX0_copyFrom_26 : decode cX0_copyFrom 26 = .ok (.aload_n 0, 1) := by decide +kernel
theorem dX0_copyFrom_27 : decode cX0_copyFrom 27 = .ok (.getfield 18, 3) := by decide +kernel
theorem dX0_copyFrom_30 : decode cX0_copyFrom 30 = .ok (.invokestatic 24, 3) := by decide +kernel
theorem dX0_copyFrom_33 : decode cX0_copyFrom 33 = .ok (.aload_n 1, 1) := by decide +kernel
theorem dX0_copyFrom_34 : decode cX0_copyFrom 34 = .ok (.getfield 21, 3) := by decide +kernel
theorem dX0_copyFrom_37 : decode cX0_copyFrom 37 = .ok (.aload_n 0, 1) := by decide +kernel
theorem dX0_copyFrom_38 : decode cX0_copyFrom 38 = .ok (.getfield 21, 3) := by decide +kernel
theorem dX0_copyFrom_41 : decode cX0_copyFrom 41 = .ok (.invokestatic 24, 3) := by decide +kernel
theorem dX0_copyFrom_44 : decode cX0_copyFrom 44 = .ok (.return_, 1) := by decide +kernel
theorem dX0_isEmpty_0 : decode cX0_isEmpty 0 = .ok (.aload_n 0, 1) := by decide +kernel
theorem dX0_isEmpty_1 : decode cX0_isEmpty 1 = .ok (.getfield 9, 3) := by decide +kernel
theorem dX0_isEmpty_4 : decode cX0_isEmpty 4 = .ok (.iload_n 1, 1) := by decide +kernel
theorem dX0_isEmpty_5 : decode cX0_isEmpty 5 = .ok (.iaload, 1) := by decide +kernel
theorem dX0_isEmpty_6 : decode cX0_isEmpty 6 = .ok (.ifCond .ne 7, 3) := by decide +kernel
theorem dX0_isEmpty_9 : decode cX0_isEmpty 9 = .ok (.iconst 1, 1) := by decide +kernel
theorem dX0_isEmpty_10 : decode cX0_isEmpty 10 = .ok (.goto 4, 3) := by decide +kernel
theorem dX0_isEmpty_13 : decode cX0_isEmpty 13 = .ok (.iconst 0, 1) := by decide +kernel
theorem dX0_isEmpty_14 : decode cX0_isEmpty 14 = .ok (.ireturn, 1) := by decide +kernel
theorem dX0_take_0 : decode cX0_take 0 = .ok (.aload_n 0, 1) := by decide +kernel
theorem dX0_take_1 : decode cX0_take 1 = .ok (.getfield 15, 3) := by decide +kernel
theorem dX0_take_4 : decode cX0_take 4 = .ok (.iload_n 1, 1) := by decide +kernel
theorem dX0_take_5 : decode cX0_take 5 = .ok (.iload_n 2, 1) := by decide +kernel
theorem dX0_take_6 : decode cX0_take 6 = .ok (.iastore, 1) := by decide +kernel
theorem dX0_take_7 : decode cX0_take 7 = .ok (.aload_n 0, 1) := by decide +kernel
theorem dX0_take_8 : decode cX0_take 8 = .ok (.getfield 9, 3) := by decide +kernel
theorem dX0_take_11 : decode cX0_take 11 = .ok (.iload_n 1, 1) := by decide +kernel
theorem dX0_take_12 : decode cX0_take 12 = .ok (.iload_n 3, 1) := by decide +kernel
theorem dX0_take_13 : decode cX0_take 13 = .ok (.iastore, 1) := by decide +kernel
theorem dX0_take_14 : decode cX0_take 14 = .ok (.aload_n 0, 1) := by decide +kernel
theorem dX0_take_15 : decode cX0_take 15 = .ok (.getfield 18, 3) := by decide +kernel
theorem dX0_take_18 : decode cX0_take 18 = .ok (.iload_n 1, 1) := by decide +kernel
theorem dX0_take_19 : decode cX0_take 19 = .ok (.iload 4, 2) := by decide +kernel
theorem dX0_take_21 : decode cX0_take 21 = .ok (.iastore, 1) := by decide +kernel
theorem dX0_take_22 : decode cX0_take 22 = .ok (.return_, 1) := by decide +kernel
theorem dX0_work_0 : decode cX0_work 0 = .ok (.iload_n 1, 1) := by decide +kernel
theorem dX0_work_1 : decode cX0_work 1 = .ok (.istore_n 3, 1) := by decide +kernel
theorem dX0_work_2 : decode cX0_work 2 = .ok (.iconst 0, 1) := by decide +kernel
theorem dX0_work_3 : decode cX0_work 3 = .ok (.istore 4, 2) := by decide +kernel
theorem dX0_work_5 : decode cX0_work 5 = .ok (.iload 4, 2) := by decide +kernel
theorem dX0_work_7 : decode cX0_work 7 = .ok (.iconst 4, 1) := by decide +kernel
theorem dX0_work_8 : decode cX0_work 8 = .ok (.if_icmp .ge 55, 3) := by decide +kernel
theorem dX0_work_11 : decode cX0_work 11 = .ok (.aload_n 0, 1) := by decide +kernel
theorem dX0_work_12 : decode cX0_work 12 = .ok (.iload 4, 2) := by decide +kernel
theorem dX0_work_14 : decode cX0_work 14 = .ok (.invokevirtual 28, 3) := by decide +kernel
theorem dX0_work_17 : decode cX0_work 17 = .ok (.ifCond .ne 40, 3) := by decide +kernel
theorem dX0_work_20 : decode cX0_work 20 = .ok (.iload_n 3, 1) := by decide +kernel
theorem dX0_work_21 : decode cX0_work 21 = .ok (.bipush 6, 2) := by decide +kernel
theorem dX0_work_23 : decode cX0_work 23 = .ok (.if_icmp .lt 34, 3) := by decide +kernel
theorem dX0_work_26 : decode cX0_work 26 = .ok (.iinc 3 (-6), 3) := by decide +kernel
theorem dX0_work_29 : decode cX0_work 29 = .ok (.aload_n 0, 1) := by decide +kernel
theorem dX0_work_30 : decode cX0_work 30 = .ok (.getfield 18, 3) := by decide +kernel
theorem dX0_work_33 : decode cX0_work 33 = .ok (.iload 4, 2) := by decide +kernel
theorem dX0_work_35 : decode cX0_work 35 = .ok (.dup2, 1) := by decide +kernel
theorem dX0_work_36 : decode cX0_work 36 = .ok (.iaload, 1) := by decide +kernel
theorem dX0_work_37 : decode cX0_work 37 = .ok (.iconst 1, 1) := by decide +kernel
theorem dX0_work_38 : decode cX0_work 38 = .ok (.isub, 1) := by decide +kernel
theorem dX0_work_39 : decode cX0_work 39 = .ok (.iastore, 1) := by decide +kernel
theorem dX0_work_40 : decode cX0_work 40 = .ok (.aload_n 0, 1) := by decide +kernel
theorem dX0_work_41 : decode cX0_work 41 = .ok (.getfield 18, 3) := by decide +kernel
theorem dX0_work_44 : decode cX0_work 44 = .ok (.iload 4, 2) := by decide +kernel
theorem dX0_work_46 : decode cX0_work 46 = .ok (.iaload, 1) := by decide +kernel
theorem dX0_work_47 : decode cX0_work 47 = .ok (.ifCond .ne 10, 3) := by decide +kernel
theorem dX0_work_50 : decode cX0_work 50 = .ok (.aload_n 0, 1) := by decide +kernel
theorem dX0_work_51 : decode cX0_work 51 = .ok (.iload 4, 2) := by decide +kernel
theorem dX0_work_53 : decode cX0_work 53 = .ok (.aload_n 2, 1) := by decide +kernel
theorem dX0_work_54 : decode cX0_work 54 = .ok (.invokevirtual 32, 3) := by decide +kernel
theorem dX0_work_57 : decode cX0_work 57 = .ok (.iinc 4 1, 3) := by decide +kernel
theorem dX0_work_60 : decode cX0_work 60 = .ok (.goto (-55), 3) := by decide +kernel
theorem dX0_work_63 : decode cX0_work 63 = .ok (.iload_n 3, 1) := by decide +kernel
theorem dX0_work_64 : decode cX0_work 64 = .ok (.ireturn, 1) := by decide +kernel
theorem dX0_end_0 : decode cX0_end 0 = .ok (.aload_n 2, 1) := by decide +kernel
theorem dX0_end_1 : decode cX0_end 1 = .ok (.aload_n 0, 1) := by decide +kernel
theorem dX0_end_2 : decode cX0_end 2 = .ok (.getfield 15, 3) := by decide +kernel
theorem dX0_end_5 : decode cX0_end 5 = .ok (.iload_n 1, 1) := by decide +kernel
theorem dX0_end_6 : decode cX0_end 6 = .ok (.iaload, 1) := by decide +kernel
theorem dX0_end_7 : decode cX0_end 7 = .ok (.dup2, 1) := by decide +kernel
theorem dX0_end_8 : decode cX0_end 8 = .ok (.iaload, 1) := by decide +kernel
theorem dX0_end_9 : decode cX0_end 9 = .ok (.bipush 14, 2) := by decide +kernel
theorem dX0_end_11 : decode cX0_end 11 = .ok (.aload_n 0, 1) := by decide +kernel
theorem dX0_end_12 : decode cX0_end 12 = .ok (.getfield 9, 3) := by decide +kernel
theorem dX0_end_15 : decode cX0_end 15 = .ok (.iload_n 1, 1) := by decide +kernel
theorem dX0_end_16 : decode cX0_end 16 = .ok (.iaload, 1) := by decide +kernel
theorem dX0_end_17 : decode cX0_end 17 = .ok (.imul, 1) := by decide +kernel
theorem dX0_end_18 : decode cX0_end 18 = .ok (.iadd, 1) := by decide +kernel
theorem dX0_end_19 : decode cX0_end 19 = .ok (.iastore, 1) := by decide +kernel
theorem dX0_end_20 : decode cX0_end 20 = .ok (.aload_n 0, 1) := by decide +kernel
theorem dX0_end_21 : decode cX0_end 21 = .ok (.getfield 9, 3) := by decide +kernel
theorem dX0_end_24 : decode cX0_end 24 = .ok (.iload_n 1, 1) := by decide +kernel
theorem dX0_end_25 : decode cX0_end 25 = .ok (.iconst 0, 1) := by decide +kernel
theorem dX0_end_26 : decode cX0_end 26 = .ok (.iastore, 1) := by decide +kernel
theorem dX0_end_27 : decode cX0_end 27 = .ok (.aload_n 0, 1) := by decide +kernel
theorem dX0_end_28 : decode cX0_end 28 = .ok (.getfield 21, 3) := by decide +kernel
theorem dX0_end_31 : decode cX0_end 31 = .ok (.iload_n 1, 1) := by decide +kernel
theorem dX0_end_32 : decode cX0_end 32 = .ok (.dup2, 1) := by decide +kernel
theorem dX0_end_33 : decode cX0_end 33 = .ok (.iaload, 1) := by decide +kernel
theorem dX0_end_34 : decode cX0_end 34 = .ok (.iconst 1, 1) := by decide +kernel
theorem dX0_end_35 : decode cX0_end 35 = .ok (.iadd, 1) := by decide +kernel
theorem dX0_end_36 : decode cX0_end 36 = .ok (.iastore, 1) := by decide +kernel
theorem dX0_end_37 : decode cX0_end 37 = .ok (.return_, 1) := by decide +kernel
theorem dX1_init_0 : decode cX1_init 0 = .ok (.aload_n 0, 1) := by decide +kernel
theorem dX1_init_1 : decode cX1_init 1 = .ok (.invokespecial 3, 3) := by decide +kernel
theorem dX1_init_4 : decode cX1_init 4 = .ok (.aload_n 0, 1) := by decide +kernel
theorem dX1_init_5 : decode cX1_init 5 = .ok (.bipush 40, 2) := by decide +kernel
theorem dX1_init_7 : decode cX1_init 7 = .ok (.newarray .int, 2) := by decide +kernel
theorem dX1_init_9 : decode cX1_init 9 = .ok (.putfield 9, 3) := by decide +kernel
theorem dX1_init_12 : decode cX1_init 12 = .ok (.aload_n 0, 1) := by decide +kernel
theorem dX1_init_13 : decode cX1_init 13 = .ok (.bipush 40, 2) := by decide +kernel
theorem dX1_init_15 : decode cX1_init 15 = .ok (.newarray .int, 2) := by decide +kernel
theorem dX1_init_17 : decode cX1_init 17 = .ok (.putfield 15, 3) := by decide +kernel
theorem dX1_init_20 : decode cX1_init 20 = .ok (.aload_n 0, 1) := by decide +kernel
theorem dX1_init_21 : decode cX1_init 21 = .ok (.bipush 40, 2) := by decide +kernel
theorem dX1_init_23 : decode cX1_init 23 = .ok (.newarray .int, 2) := by decide +kernel
theorem dX1_init_25 : decode cX1_init 25 = .ok (.putfield 18, 3) := by decide +kernel
theorem dX1_init_28 : decode cX1_init 28 = .ok (.aload_n 0, 1) := by decide +kernel
theorem dX1_init_29 : decode cX1_init 29 = .ok (.bipush 40, 2) := by decide +kernel
theorem dX1_init_31 : decode cX1_init 31 = .ok (.newarray .int, 2) := by decide +kernel
theorem dX1_init_33 : decode cX1_init 33 = .ok (.putfield 21, 3) := by decide +kernel
theorem dX1_init_36 : decode cX1_init 36 = .ok (.aload_n 0, 1) := by decide +kernel
theorem dX1_init_37 : decode cX1_init 37 = .ok (.aload_n 1, 1) := by decide +kernel
theorem dX1_init_38 : decode cX1_init 38 = .ok (.putfield 24, 3) := by decide +kernel
theorem dX1_init_41 : decode cX1_init 41 = .ok (.return_, 1) := by decide +kernel
theorem dX1_copyFrom_0 : decode cX1_copyFrom 0 = .ok (.aload_n 1, 1) := by decide +kernel
theorem dX1_copyFrom_1 : decode cX1_copyFrom 1 = .ok (.getfield 9, 3) := by decide +kernel
theorem dX1_copyFrom_4 : decode cX1_copyFrom 4 = .ok (.aload_n 0, 1) := by decide +kernel
theorem dX1_copyFrom_5 : decode cX1_copyFrom 5 = .ok (.getfield 9, 3) := by decide +kernel
theorem dX1_copyFrom_8 : decode cX1_copyFrom 8 = .ok (.invokestatic 28, 3) := by decide +kernel
theorem dX1_copyFrom_11 : decode cX1_copyFrom 11 = .ok (.aload_n 1, 1) := by decide +kernel
theorem dX1_copyFrom_12 : decode cX1_copyFrom 12 = .ok (.getfield 15, 3) := by decide +kernel
theorem dX1_copyFrom_15 : decode cX1_copyFrom 15 = .ok (.aload_n 0, 1) := by decide +kernel
theorem dX1_copyFrom_16 : decode cX1_copyFrom 16 = .ok (.getfield 15, 3) := by decide +kernel
theorem dX1_copyFrom_19 : decode cX1_copyFrom 19 = .ok (.invokestatic 28, 3) := by decide +kernel
theorem dX1_copyFrom_22 : decode cX1_copyFrom 22 = .ok (.aload_n 1, 1) := by decide +kernel
theorem dX1_copyFrom_23 : decode cX1_copyFrom 23 = .ok (.getfield 18, 3) := by decide +kernel
theorem dX1_copyFrom_26 : decode cX1_copyFrom 26 = .ok (.aload_n 0, 1) := by decide +kernel
theorem dX1_copyFrom_27 : decode cX1_copyFrom 27 = .ok (.getfield 18, 3) := by decide +kernel
theorem dX1_copyFrom_30 : decode cX1_copyFrom 30 = .ok (.invokestatic 28, 3) := by decide +kernel
theorem dX1_copyFrom_33 : decode cX1_copyFrom 33 = .ok (.aload_n 1, 1) := by decide +kernel
theorem dX1_copyFrom_34 : decode cX1_copyFrom 34 = .ok (.getfield 21, 3) := by decide +kernel
theorem dX1_copyFrom_37 : decode cX1_copyFrom 37 = .ok (.aload_n 0, 1) := by decide +kernel
theorem dX1_copyFrom_38 : decode cX1_copyFrom 38 = .ok (.getfield 21, 3) := by decide +kernel
theorem dX1_copyFrom_41 : decode cX1_copyFrom 41 = .ok (.invokestatic 28, 3) := by decide +kernel
theorem dX1_copyFrom_44 : decode cX1_copyFrom 44 = .ok (.aload_n 0, 1) := by decide +kernel
theorem dX1_copyFrom_45 : decode cX1_copyFrom 45 = .ok (.aload_n 1, 1) := by decide +kernel
theorem dX1_copyFrom_46 : decode cX1_copyFrom 46 = .ok (.getfield 32, 3) := by decide +kernel
theorem dX1_copyFrom_49 : decode cX1_copyFrom 49 = .ok (.putfield 32, 3) := by decide +kernel
theorem dX1_copyFrom_52 : decode cX1_copyFrom 52 = .ok (.aload_n 0, 1) := by decide +kernel
theorem dX1_copyFrom_53 : decode cX1_copyFrom 53 = .ok (.aload_n 1, 1) := by decide +kernel
theorem dX1_copyFrom_54 : decode cX1_copyFrom 54 = .ok (.getfield 36, 3) := by decide +kernel
theorem dX1_copyFrom_57 : decode cX1_copyFrom 57 = .ok (.putfield 36, 3) := by decide +kernel
theorem dX1_copyFrom_60 : decode cX1_copyFrom 60 = .ok (.return_, 1) := by decide +kernel
theorem dX1_lay_0 : decode cX1_lay 0 = .ok (.aload_n 0, 1) := by decide +kernel
theorem dX1_lay_1 : decode cX1_lay 1 = .ok (.getfield 9, 3) := by decide +kernel
theorem dX1_lay_4 : decode cX1_lay 4 = .ok (.aload_n 0, 1) := by decide +kernel
theorem dX1_lay_5 : decode cX1_lay 5 = .ok (.getfield 32, 3) := by decide +kernel
theorem dX1_lay_8 : decode cX1_lay 8 = .ok (.iload_n 1, 1) := by decide +kernel
theorem dX1_lay_9 : decode cX1_lay 9 = .ok (.iastore, 1) := by decide +kernel
theorem dX1_lay_10 : decode cX1_lay 10 = .ok (.aload_n 0, 1) := by decide +kernel
theorem dX1_lay_11 : decode cX1_lay 11 = .ok (.getfield 15, 3) := by decide +kernel
theorem dX1_lay_14 : decode cX1_lay 14 = .ok (.aload_n 0, 1) := by decide +kernel
theorem dX1_lay_15 : decode cX1_lay 15 = .ok (.getfield 32, 3) := by decide +kernel
theorem dX1_lay_18 : decode cX1_lay 18 = .ok (.iload_n 2, 1) := by decide +kernel
theorem dX1_lay_19 : decode cX1_lay 19 = .ok (.iastore, 1) := by decide +kernel
theorem dX1_lay_20 : decode cX1_lay 20 = .ok (.aload_n 0, 1) := by decide +kernel
theorem dX1_lay_21 : decode cX1_lay 21 = .ok (.getfield 18, 3) := by decide +kernel
theorem dX1_lay_24 : decode cX1_lay 24 = .ok (.aload_n 0, 1) := by decide +kernel
theorem dX1_lay_25 : decode cX1_lay 25 = .ok (.getfield 32, 3) := by decide +kernel
theorem dX1_lay_28 : decode cX1_lay 28 = .ok (.iload_n 3, 1) := by decide +kernel
theorem dX1_lay_29 : decode cX1_lay 29 = .ok (.iastore, 1) := by decide +kernel
theorem dX1_lay_30 : decode cX1_lay 30 = .ok (.aload_n 0, 1) := by decide +kernel
theorem dX1_lay_31 : decode cX1_lay 31 = .ok (.dup, 1) := by decide +kernel
theorem dX1_lay_32 : decode cX1_lay 32 = .ok (.getfield 32, 3) := by decide +kernel
theorem dX1_lay_35 : decode cX1_lay 35 = .ok (.iconst 1, 1) := by decide +kernel
theorem dX1_lay_36 : decode cX1_lay 36 = .ok (.iadd, 1) := by decide +kernel
theorem dX1_lay_37 : decode cX1_lay 37 = .ok (.putfield 32, 3) := by decide +kernel
theorem dX1_lay_40 : decode cX1_lay 40 = .ok (.aload_n 0, 1) := by decide +kernel
theorem dX1_lay_41 : decode cX1_lay 41 = .ok (.getfield 32, 3) := by decide +kernel
theorem dX1_lay_44 : decode cX1_lay 44 = .ok (.iconst 1, 1) := by decide +kernel
theorem dX1_lay_45 : decode cX1_lay 45 = .ok (.isub, 1) := by decide +kernel
theorem dX1_lay_46 : decode cX1_lay 46 = .ok (.ireturn, 1) := by decide +kernel
theorem dX1_ageOf_0 : decode cX1_ageOf 0 = .ok (.iload_n 2, 1) := by decide +kernel
theorem dX1_ageOf_1 : decode cX1_ageOf 1 = .ok (.aload_n 0, 1) := by decide +kernel
theorem dX1_ageOf_2 : decode cX1_ageOf 2 = .ok (.getfield 18, 3) := by decide +kernel
theorem dX1_ageOf_5 : decode cX1_ageOf 5 = .ok (.iload_n 1, 1) := by decide +kernel
theorem dX1_ageOf_6 : decode cX1_ageOf 6 = .ok (.iaload, 1) := by decide +kernel
theorem dX1_ageOf_7 : decode cX1_ageOf 7 = .ok (.isub, 1) := by decide +kernel
theorem dX1_ageOf_8 : decode cX1_ageOf 8 = .ok (.bipush 24, 2) := by decide +kernel
theorem dX1_ageOf_10 : decode cX1_ageOf 10 = .ok (.idiv, 1) := by decide +kernel
theorem dX1_ageOf_11 : decode cX1_ageOf 11 = .ok (.ireturn, 1) := by decide +kernel
theorem dX1_isRipe_0 : decode cX1_isRipe 0 = .ok (.aload_n 0, 1) := by decide +kernel
theorem dX1_isRipe_1 : decode cX1_isRipe 1 = .ok (.getfield 15, 3) := by decide +kernel
theorem dX1_isRipe_4 : decode cX1_isRipe 4 = .ok (.iload_n 1, 1) := by decide +kernel
theorem dX1_isRipe_5 : decode cX1_isRipe 5 = .ok (.iaload, 1) := by decide +kernel
theorem dX1_isRipe_6 : decode cX1_isRipe 6 = .ok (.ifCond .le 30, 3) := by decide +kernel
theorem dX1_isRipe_9 : decode cX1_isRipe 9 = .ok (.aload_n 0, 1) := by decide +kernel
theorem dX1_isRipe_10 : decode cX1_isRipe 10 = .ok (.iload_n 1, 1) := by decide +kernel
theorem dX1_isRipe_11 : decode cX1_isRipe 11 = .ok (.iload_n 2, 1) := by decide +kernel
theorem dX1_isRipe_12 : decode cX1_isRipe 12 = .ok (.invokevirtual 39, 3) := by decide +kernel
theorem dX1_isRipe_15 : decode cX1_isRipe 15 = .ok (.aload_n 0, 1) := by decide +kernel
theorem dX1_isRipe_16 : decode cX1_isRipe 16 = .ok (.getfield 24, 3) := by decide +kernel
theorem dX1_isRipe_19 : decode cX1_isRipe 19 = .ok (.getfield 43, 3) := by decide +kernel
theorem dX1_isRipe_22 : decode cX1_isRipe 22 = .ok (.aload_n 0, 1) := by decide +kernel
theorem dX1_isRipe_23 : decode cX1_isRipe 23 = .ok (.getfield 9, 3) := by decide +kernel
theorem dX1_isRipe_26 : decode cX1_isRipe 26 = .ok (.iload_n 1, 1) := by decide +kernel
theorem dX1_isRipe_27 : decode cX1_isRipe 27 = .ok (.iaload, 1) := by decide +kernel
theorem dX1_isRipe_28 : decode cX1_isRipe 28 = .ok (.iaload, 1) := by decide +kernel
theorem dX1_isRipe_29 : decode cX1_isRipe 29 = .ok (.if_icmp .lt 7, 3) := by decide +kernel
theorem dX1_isRipe_32 : decode cX1_isRipe 32 = .ok (.iconst 1, 1) := by decide +kernel
theorem dX1_isRipe_33 : decode cX1_isRipe 33 = .ok (.goto 4, 3) := by decide +kernel
theorem dX1_isRipe_36 : decode cX1_isRipe 36 = .ok (.iconst 0, 1) := by decide +kernel
theorem dX1_isRipe_37 : decode cX1_isRipe 37 = .ok (.ireturn, 1) := by decide +kernel
theorem dX1_spoilOld_0 : decode cX1_spoilOld 0 = .ok (.iconst 0, 1) := by decide +kernel
theorem dX1_spoilOld_1 : decode cX1_spoilOld 1 = .ok (.istore_n 2, 1) := by decide +kernel
theorem dX1_spoilOld_2 : decode cX1_spoilOld 2 = .ok (.iload_n 2, 1) := by decide +kernel
theorem dX1_spoilOld_3 : decode cX1_spoilOld 3 = .ok (.aload_n 0, 1) := by decide +kernel
theorem dX1_spoilOld_4 : decode cX1_spoilOld 4 = .ok (.getfield 32, 3) := by decide +kernel
theorem dX1_spoilOld_7 : decode cX1_spoilOld 7 = .ok (.if_icmp .ge 92, 3) := by decide +kernel
theorem dX1_spoilOld_10 : decode cX1_spoilOld 10 = .ok (.aload_n 0, 1) := by decide +kernel
theorem dX1_spoilOld_11 : decode cX1_spoilOld 11 = .ok (.getfield 24, 3) := by decide +kernel
theorem dX1_spoilOld_14 : decode cX1_spoilOld 14 = .ok (.getfield 43, 3) := by decide +kernel
theorem dX1_spoilOld_17 : decode cX1_spoilOld 17 = .ok (.aload_n 0, 1) := by decide +kernel
theorem dX1_spoilOld_18 : decode cX1_spoilOld 18 = .ok (.getfield 9, 3) := by decide +kernel
theorem dX1_spoilOld_21 : decode cX1_spoilOld 21 = .ok (.iload_n 2, 1) := by decide +kernel
theorem dX1_spoilOld_22 : decode cX1_spoilOld 22 = .ok (.iaload, 1) := by decide +kernel
theorem dX1_spoilOld_23 : decode cX1_spoilOld 23 = .ok (.iaload, 1) := by decide +kernel
theorem dX1_spoilOld_24 : decode cX1_spoilOld 24 = .ok (.aload_n 0, 1) := by decide +kernel
theorem dX1_spoilOld_25 : decode cX1_spoilOld 25 = .ok (.getfield 24, 3) := by decide +kernel
theorem dX1_spoilOld_28 : decode cX1_spoilOld 28 = .ok (.getfield 48, 3) := by decide +kernel
theorem dX1_spoilOld_31 : decode cX1_spoilOld 31 = .ok (.aload_n 0, 1) := by decide +kernel
theorem dX1_spoilOld_32 : decode cX1_spoilOld 32 = .ok (.getfield 9, 3) := by decide +kernel
theorem dX1_spoilOld_35 : decode cX1_spoilOld 35 = .ok (.iload_n 2, 1) := by decide +kernel
theorem dX1_spoilOld_36 : decode cX1_spoilOld 36 = .ok (.iaload, 1) := by decide +kernel
theorem dX1_spoilOld_37 : decode cX1_spoilOld 37 = .ok (.iaload, 1) := by decide +kernel
theorem dX1_spoilOld_38 : decode cX1_spoilOld 38 = .ok (.iadd, 1) := by decide +kernel
theorem dX1_spoilOld_39 : decode cX1_spoilOld 39 = .ok (.istore_n 3, 1) := by decide +kernel
theorem dX1_spoilOld_40 : decode cX1_spoilOld 40 = .ok (.aload_n 0, 1) := by decide +kernel
theorem dX1_spoilOld_41 : decode cX1_spoilOld 41 = .ok (.getfield 15, 3) := by decide +kernel
theorem dX1_spoilOld_44 : decode cX1_spoilOld 44 = .ok (.iload_n 2, 1) := by decide +kernel
theorem dX1_spoilOld_45 : decode cX1_spoilOld 45 = .ok (.iaload, 1) := by decide +kernel
theorem dX1_spoilOld_46 : decode cX1_spoilOld 46 = .ok (.ifCond .le 47, 3) := by decide +kernel
theorem dX1_spoilOld_49 : decode cX1_spoilOld 49 = .ok (.aload_n 0, 1) := by decide +kernel
theorem dX1_spoilOld_50 : decode cX1_spoilOld 50 = .ok (.iload_n 2, 1) := by decide +kernel
theorem dX1_spoilOld_51 : decode cX1_spoilOld 51 = .ok (.iload_n 1, 1) := by decide +kernel
theorem dX1_spoilOld_52 : decode cX1_spoilOld 52 = .ok (.invokevirtual 39, 3) := by decide +kernel
theorem dX1_spoilOld_55 : decode cX1_spoilOld 55 = .ok (.iload_n 3, 1) := by decide +kernel
theorem dX1_spoilOld_56 : decode cX1_spoilOld 56 = .ok (.if_icmp .le 37, 3) := by decide +kernel
theorem dX1_spoilOld_59 : decode cX1_spoilOld 59 = .ok (.aload_n 0, 1) := by decide +kernel
theorem dX1_spoilOld_60 : decode cX1_spoilOld 60 = .ok (.dup, 1) := by decide +kernel
theorem dX1_spoilOld_61 : decode cX1_spoilOld 61 = .ok (.getfield 36, 3) := by decide +kernel
theorem dX1_spoilOld_64 : decode cX1_spoilOld 64 = .ok (.aload_n 0, 1) := by decide +kernel
theorem dX1_spoilOld_65 : decode cX1_spoilOld 65 = .ok (.getfield 15, 3) := by decide +kernel
theorem dX1_spoilOld_68 : decode cX1_spoilOld 68 = .ok (.iload_n 2, 1) := by decide +kernel
theorem dX1_spoilOld_69 : decode cX1_spoilOld 69 = .ok (.iaload, 1) := by decide +kernel
theorem dX1_spoilOld_70 : decode cX1_spoilOld 70 = .ok (.iadd, 1) := by decide +kernel
theorem dX1_spoilOld_71 : decode cX1_spoilOld 71 = .ok (.putfield 36, 3) := by decide +kernel
theorem dX1_spoilOld_74 : decode cX1_spoilOld 74 = .ok (.aload_n 0, 1) := by decide +kernel
theorem dX1_spoilOld_75 : decode cX1_spoilOld 75 = .ok (.getfield 21, 3) := by decide +kernel
theorem dX1_spoilOld_78 : decode cX1_spoilOld 78 = .ok (.iload_n 2, 1) := by decide +kernel
theorem dX1_spoilOld_79 : decode cX1_spoilOld 79 = .ok (.aload_n 0, 1) := by decide +kernel
theorem dX1_spoilOld_80 : decode cX1_spoilOld 80 = .ok (.getfield 15, 3) := by decide +kernel
theorem dX1_spoilOld_83 : decode cX1_spoilOld 83 = .ok (.iload_n 2, 1) := by decide +kernel
theorem dX1_spoilOld_84 : decode cX1_spoilOld 84 = .ok (.iaload, 1) := by decide +kernel
theorem dX1_spoilOld_85 : decode cX1_spoilOld 85 = .ok (.iastore, 1) := by decide +kernel
theorem dX1_spoilOld_86 : decode cX1_spoilOld 86 = .ok (.aload_n 0, 1) := by decide +kernel
theorem dX1_spoilOld_87 : decode cX1_spoilOld 87 = .ok (.getfield 15, 3) := by decide +kernel
theorem dX1_spoilOld_90 : decode cX1_spoilOld 90 = .ok (.iload_n 2, 1) := by decide +kernel
theorem dX1_spoilOld_91 : decode cX1_spoilOld 91 = .ok (.iconst 0, 1) := by decide +kernel
theorem dX1_spoilOld_92 : decode cX1_spoilOld 92 = .ok (.iastore, 1) := by decide +kernel
theorem dX1_spoilOld_93 : decode cX1_spoilOld 93 = .ok (.iinc 2 1, 3) := by decide +kernel
theorem dX1_spoilOld_96 : decode cX1_spoilOld 96 = .ok (.goto (-94), 3) := by decide +kernel
theorem dX1_spoilOld_99 : decode cX1_spoilOld 99 = .ok (.return_, 1) := by decide +kernel
theorem dX2_init_0 : decode cX2_init 0 = .ok (.aload_n 0, 1) := by decide +kernel
theorem dX2_init_1 : decode cX2_init 1 = .ok (.invokespecial 3, 3) := by decide +kernel
theorem dX2_init_4 : decode cX2_init 4 = .ok (.aload_n 0, 1) := by decide +kernel
theorem dX2_init_5 : decode cX2_init 5 = .ok (.sipush 1920, 3) := by decide +kernel
theorem dX2_init_8 : decode cX2_init 8 = .ok (.newarray .int, 2) := by decide +kernel
theorem dX2_init_10 : decode cX2_init 10 = .ok (.putfield 9, 3) := by decide +kernel
theorem dX2_init_13 : decode cX2_init 13 = .ok (.aload_n 0, 1) := by decide +kernel
theorem dX2_init_14 : decode cX2_init 14 = .ok (.bipush 80, 2) := by decide +kernel
theorem dX2_init_16 : decode cX2_init 16 = .ok (.newarray .int, 2) := by decide +kernel
theorem dX2_init_18 : decode cX2_init 18 = .ok (.putfield 15, 3) := by decide +kernel
theorem dX2_init_21 : decode cX2_init 21 = .ok (.return_, 1) := by decide +kernel
theorem dX2_keep_0 : decode cX2_keep 0 = .ok (.iload_n 1, 1) := by decide +kernel
theorem dX2_keep_1 : decode cX2_keep 1 = .ok (.iconst 4, 1) := by decide +kernel
theorem dX2_keep_2 : decode cX2_keep 2 = .ok (.imul, 1) := by decide +kernel
theorem dX2_keep_3 : decode cX2_keep 3 = .ok (.bipush 6, 2) := by decide +kernel
theorem dX2_keep_5 : decode cX2_keep 5 = .ok (.imul, 1) := by decide +kernel
theorem dX2_keep_6 : decode cX2_keep 6 = .ok (.istore 6, 2) := by decide +kernel
theorem dX2_keep_8 : decode cX2_keep 8 = .ok (.aload_n 2, 1) := by decide +kernel
theorem dX2_keep_9 : decode cX2_keep 9 = .ok (.iload_n 3, 1) := by decide +kernel
theorem dX2_keep_10 : decode cX2_keep 10 = .ok (.aload_n 0, 1) := by decide +kernel
theorem dX2_keep_11 : decode cX2_keep 11 = .ok (.getfield 9, 3) := by decide +kernel
theorem dX2_keep_14 : decode cX2_keep 14 = .ok (.iload 6, 2) := by decide +kernel
theorem dX2_keep_16 : decode cX2_keep 16 = .ok (.bipush 12, 2) := by decide +kernel
end
section
theorem dX2_keep_18 : decode cX2_keep 18 = .ok (.invokestatic 18, 3) := by decide +kernel
theorem dX2_keep_21 : decode cX2_keep 21 = .ok (.aload 4, 2) := by decide +kernel
theorem dX2_keep_23 : decode cX2_keep 23 = .ok (.getfield 24, 3) := by decide +kernel
theorem dX2_keep_26 : decode cX2_keep 26 = .ok (.iload 5, 2) := by decide +kernel
theorem dX2_keep_28 : decode cX2_keep 28 = .ok (.bipush 12, 2) := by decide +kernel
theorem dX2_keep_30 : decode cX2_keep 30 = .ok (.imul, 1) := by decide +kernel
theorem dX2_keep_31 : decode cX2_keep 31 = .ok (.aload_n 0, 1) := by decide +kernel
theorem dX2_keep_32 : decode cX2_keep 32 = .ok (.getfield 9, 3) := by decide +kernel
theorem dX2_keep_35 : decode cX2_keep 35 = .ok (.iload 6, 2) := by decide +kernel
theorem dX2_keep_37 : decode cX2_keep 37 = .ok (.bipush 12, 2) := by decide +kernel
theorem dX2_keep_39 : decode cX2_keep 39 = .ok (.iadd, 1) := by decide +kernel
theorem dX2_keep_40 : decode cX2_keep 40 = .ok (.bipush 12, 2) := by decide +kernel
theorem dX2_keep_42 : decode cX2_keep 42 = .ok (.invokestatic 18, 3) := by decide +kernel
theorem dX2_keep_45 : decode cX2_keep 45 = .ok (.aload 4, 2) := by decide +kernel
theorem dX2_keep_47 : decode cX2_keep 47 = .ok (.getfield 27, 3) := by decide +kernel
theorem dX2_keep_50 : decode cX2_keep 50 = .ok (.iconst 2, 1) := by decide +kernel
theorem dX2_keep_51 : decode cX2_keep 51 = .ok (.iload 5, 2) := by decide +kernel
theorem dX2_keep_53 : decode cX2_keep 53 = .ok (.imul, 1) := by decide +kernel
theorem dX2_keep_54 : decode cX2_keep 54 = .ok (.iaload, 1) := by decide +kernel
theorem dX2_keep_55 : decode cX2_keep 55 = .ok (.bipush 50, 2) := by decide +kernel
theorem dX2_keep_57 : decode cX2_keep 57 = .ok (.irem, 1) := by decide +kernel
theorem dX2_keep_58 : decode cX2_keep 58 = .ok (.istore 7, 2) := by decide +kernel
theorem dX2_keep_60 : decode cX2_keep 60 = .ok (.aload_n 0, 1) := by decide +kernel
theorem dX2_keep_61 : decode cX2_keep 61 = .ok (.getfield 15, 3) := by decide +kernel
theorem dX2_keep_64 : decode cX2_keep 64 = .ok (.iload_n 1, 1) := by decide +kernel
theorem dX2_keep_65 : decode cX2_keep 65 = .ok (.iconst 0, 1) := by decide +kernel
theorem dX2_keep_66 : decode cX2_keep 66 = .ok (.bipush 30, 2) := by decide +kernel
theorem dX2_keep_68 : decode cX2_keep 68 = .ok (.iload 7, 2) := by decide +kernel
theorem dX2_keep_70 : decode cX2_keep 70 = .ok (.isub, 1) := by decide +kernel
theorem dX2_keep_71 : decode cX2_keep 71 = .ok (.invokestatic 30, 3) := by decide +kernel
theorem dX2_keep_74 : decode cX2_keep 74 = .ok (.iastore, 1) := by decide +kernel
theorem dX2_keep_75 : decode cX2_keep 75 = .ok (.return_, 1) := by decide +kernel
theorem dX2_markOf_0 : decode cX2_markOf 0 = .ok (.iload_n 2, 1) := by decide +kernel
theorem dX2_markOf_1 : decode cX2_markOf 1 = .ok (.iconst 2, 1) := by decide +kernel
theorem dX2_markOf_2 : decode cX2_markOf 2 = .ok (.irem, 1) := by decide +kernel
theorem dX2_markOf_3 : decode cX2_markOf 3 = .ok (.istore 4, 2) := by decide +kernel
theorem dX2_markOf_5 : decode cX2_markOf 5 = .ok (.aload_n 0, 1) := by decide +kernel
theorem dX2_markOf_6 : decode cX2_markOf 6 = .ok (.iload_n 1, 1) := by decide +kernel
theorem dX2_markOf_7 : decode cX2_markOf 7 = .ok (.iload_n 2, 1) := by decide +kernel
theorem dX2_markOf_8 : decode cX2_markOf 8 = .ok (.iconst 2, 1) := by decide +kernel
theorem dX2_markOf_9 : decode cX2_markOf 9 = .ok (.idiv, 1) := by decide +kernel
theorem dX2_markOf_10 : decode cX2_markOf 10 = .ok (.aload_n 0, 1) := by decide +kernel
theorem dX2_markOf_11 : decode cX2_markOf 11 = .ok (.getfield 15, 3) := by decide +kernel
theorem dX2_markOf_14 : decode cX2_markOf 14 = .ok (.iload_n 1, 1) := by decide +kernel
theorem dX2_markOf_15 : decode cX2_markOf 15 = .ok (.iaload, 1) := by decide +kernel
theorem dX2_markOf_16 : decode cX2_markOf 16 = .ok (.if_icmp .ge 8, 3) := by decide +kernel
theorem dX2_markOf_19 : decode cX2_markOf 19 = .ok (.iload 4, 2) := by decide +kernel
theorem dX2_markOf_21 : decode cX2_markOf 21 = .ok (.goto 7, 3) := by decide +kernel
theorem dX2_markOf_24 : decode cX2_markOf 24 = .ok (.iload 4, 2) := by decide +kernel
theorem dX2_markOf_26 : decode cX2_markOf 26 = .ok (.iconst 2, 1) := by decide +kernel
theorem dX2_markOf_27 : decode cX2_markOf 27 = .ok (.iadd, 1) := by decide +kernel
theorem dX2_markOf_28 : decode cX2_markOf 28 = .ok (.iload_n 3, 1) := by decide +kernel
theorem dX2_markOf_29 : decode cX2_markOf 29 = .ok (.invokevirtual 36, 3) := by decide +kernel
theorem dX2_markOf_32 : decode cX2_markOf 32 = .ok (.ireturn, 1) := by decide +kernel
theorem dX2_groupMark_0 : decode cX2_groupMark 0 = .ok (.aload_n 0, 1) := by decide +kernel
theorem dX2_groupMark_1 : decode cX2_groupMark 1 = .ok (.getfield 9, 3) := by decide +kernel
theorem dX2_groupMark_4 : decode cX2_groupMark 4 = .ok (.iload_n 1, 1) := by decide +kernel
theorem dX2_groupMark_5 : decode cX2_groupMark 5 = .ok (.iconst 4, 1) := by decide +kernel
theorem dX2_groupMark_6 : decode cX2_groupMark 6 = .ok (.imul, 1) := by decide +kernel
theorem dX2_groupMark_7 : decode cX2_groupMark 7 = .ok (.iload_n 2, 1) := by decide +kernel
theorem dX2_groupMark_8 : decode cX2_groupMark 8 = .ok (.iadd, 1) := by decide +kernel
theorem dX2_groupMark_9 : decode cX2_groupMark 9 = .ok (.bipush 6, 2) := by decide +kernel
theorem dX2_groupMark_11 : decode cX2_groupMark 11 = .ok (.imul, 1) := by decide +kernel
theorem dX2_groupMark_12 : decode cX2_groupMark 12 = .ok (.iload_n 3, 1) := by decide +kernel
theorem dX2_groupMark_13 : decode cX2_groupMark 13 = .ok (.iadd, 1) := by decide +kernel
theorem dX2_groupMark_14 : decode cX2_groupMark 14 = .ok (.iaload, 1) := by decide +kernel
theorem dX2_groupMark_15 : decode cX2_groupMark 15 = .ok (.ireturn, 1) := by decide +kernel
theorem dX2_groupSheets_0 : decode cX2_groupSheets 0 = .ok (.iload_n 2, 1) := by decide +kernel
theorem dX2_groupSheets_1 : decode cX2_groupSheets 1 = .ok (.iconst 2, 1) := by decide +kernel
theorem dX2_groupSheets_2 : decode cX2_groupSheets 2 = .ok (.if_icmp .ge 12, 3) := by decide +kernel
theorem dX2_groupSheets_5 : decode cX2_groupSheets 5 = .ok (.aload_n 0, 1) := by decide +kernel
theorem dX2_groupSheets_6 : decode cX2_groupSheets 6 = .ok (.getfield 15, 3) := by decide +kernel
theorem dX2_groupSheets_9 : decode cX2_groupSheets 9 = .ok (.iload_n 1, 1) := by decide +kernel
theorem dX2_groupSheets_10 : decode cX2_groupSheets 10 = .ok (.iaload, 1) := by decide +kernel
theorem dX2_groupSheets_11 : decode cX2_groupSheets 11 = .ok (.goto 12, 3) := by decide +kernel
theorem dX2_groupSheets_14 : decode cX2_groupSheets 14 = .ok (.bipush 30, 2) := by decide +kernel
theorem dX2_groupSheets_16 : decode cX2_groupSheets 16 = .ok (.aload_n 0, 1) := by decide +kernel
theorem dX2_groupSheets_17 : decode cX2_groupSheets 17 = .ok (.getfield 15, 3) := by decide +kernel
theorem dX2_groupSheets_20 : decode cX2_groupSheets 20 = .ok (.iload_n 1, 1) := by decide +kernel
theorem dX2_groupSheets_21 : decode cX2_groupSheets 21 = .ok (.iaload, 1) := by decide +kernel
theorem dX2_groupSheets_22 : decode cX2_groupSheets 22 = .ok (.isub, 1) := by decide +kernel
theorem dX2_groupSheets_23 : decode cX2_groupSheets 23 = .ok (.ireturn, 1) := by decide +kernel
theorem dX2_groupFirst_0 : decode cX2_groupFirst 0 = .ok (.iload_n 2, 1) := by decide +kernel
theorem dX2_groupFirst_1 : decode cX2_groupFirst 1 = .ok (.iconst 2, 1) := by decide +kernel
theorem dX2_groupFirst_2 : decode cX2_groupFirst 2 = .ok (.if_icmp .ge 7, 3) := by decide +kernel
theorem dX2_groupFirst_5 : decode cX2_groupFirst 5 = .ok (.iload_n 2, 1) := by decide +kernel
theorem dX2_groupFirst_6 : decode cX2_groupFirst 6 = .ok (.goto 15, 3) := by decide +kernel
theorem dX2_groupFirst_9 : decode cX2_groupFirst 9 = .ok (.iconst 2, 1) := by decide +kernel
theorem dX2_groupFirst_10 : decode cX2_groupFirst 10 = .ok (.aload_n 0, 1) := by decide +kernel
theorem dX2_groupFirst_11 : decode cX2_groupFirst 11 = .ok (.getfield 15, 3) := by decide +kernel
theorem dX2_groupFirst_14 : decode cX2_groupFirst 14 = .ok (.iload_n 1, 1) := by decide +kernel
theorem dX2_groupFirst_15 : decode cX2_groupFirst 15 = .ok (.iaload, 1) := by decide +kernel
theorem dX2_groupFirst_16 : decode cX2_groupFirst 16 = .ok (.imul, 1) := by decide +kernel
theorem dX2_groupFirst_17 : decode cX2_groupFirst 17 = .ok (.iload_n 2, 1) := by decide +kernel
theorem dX2_groupFirst_18 : decode cX2_groupFirst 18 = .ok (.iadd, 1) := by decide +kernel
theorem dX2_groupFirst_19 : decode cX2_groupFirst 19 = .ok (.iconst 2, 1) := by decide +kernel
theorem dX2_groupFirst_20 : decode cX2_groupFirst 20 = .ok (.isub, 1) := by decide +kernel
theorem dX2_groupFirst_21 : decode cX2_groupFirst 21 = .ok (.ireturn, 1) := by decide +kernel
theorem dX3_init_0 : decode cX3_init 0 = .ok (.aload_n 0, 1) := by decide +kernel
theorem dX3_init_1 : decode cX3_init 1 = .ok (.invokespecial 3, 3) := by decide +kernel
theorem dX3_init_4 : decode cX3_init 4 = .ok (.aload_n 0, 1) := by decide +kernel
theorem dX3_init_5 : decode cX3_init 5 = .ok (.iconst 4, 1) := by decide +kernel
theorem dX3_init_6 : decode cX3_init 6 = .ok (.newarray .int, 2) := by decide +kernel
theorem dX3_init_8 : decode cX3_init 8 = .ok (.putfield 9, 3) := by decide +kernel
theorem dX3_init_11 : decode cX3_init 11 = .ok (.aload_n 0, 1) := by decide +kernel
theorem dX3_init_12 : decode cX3_init 12 = .ok (.bipush 48, 2) := by decide +kernel
theorem dX3_init_14 : decode cX3_init 14 = .ok (.newarray .int, 2) := by decide +kernel
theorem dX3_init_16 : decode cX3_init 16 = .ok (.putfield 15, 3) := by decide +kernel
theorem dX3_init_19 : decode cX3_init 19 = .ok (.aload_n 0, 1) := by decide +kernel
theorem dX3_init_20 : decode cX3_init 20 = .ok (.bipush 8, 2) := by decide +kernel
theorem dX3_init_22 : decode cX3_init 22 = .ok (.newarray .int, 2) := by decide +kernel
theorem dX3_init_24 : decode cX3_init 24 = .ok (.putfield 18, 3) := by decide +kernel
theorem dX3_init_27 : decode cX3_init 27 = .ok (.return_, 1) := by decide +kernel
theorem dX3_copyFrom_0 : decode cX3_copyFrom 0 = .ok (.aload_n 1, 1) := by decide +kernel
theorem dX3_copyFrom_1 : decode cX3_copyFrom 1 = .ok (.getfield 9, 3) := by decide +kernel
theorem dX3_copyFrom_4 : decode cX3_copyFrom 4 = .ok (.aload_n 0, 1) := by decide +kernel
theorem dX3_copyFrom_5 : decode cX3_copyFrom 5 = .ok (.getfield 9, 3) := by decide +kernel
theorem dX3_copyFrom_8 : decode cX3_copyFrom 8 = .ok (.invokestatic 21, 3) := by decide +kernel
theorem dX3_copyFrom_11 : decode cX3_copyFrom 11 = .ok (.aload_n 1, 1) := by decide +kernel
theorem dX3_copyFrom_12 : decode cX3_copyFrom 12 = .ok (.getfield 15, 3) := by decide +kernel
theorem dX3_copyFrom_15 : decode cX3_copyFrom 15 = .ok (.aload_n 0, 1) := by decide +kernel
theorem dX3_copyFrom_16 : decode cX3_copyFrom 16 = .ok (.getfield 15, 3) := by decide +kernel
theorem dX3_copyFrom_19 : decode cX3_copyFrom 19 = .ok (.invokestatic 21, 3) := by decide +kernel
theorem dX3_copyFrom_22 : decode cX3_copyFrom 22 = .ok (.aload_n 1, 1) := by decide +kernel
theorem dX3_copyFrom_23 : decode cX3_copyFrom 23 = .ok (.getfield 18, 3) := by decide +kernel
theorem dX3_copyFrom_26 : decode cX3_copyFrom 26 = .ok (.aload_n 0, 1) := by decide +kernel
theorem dX3_copyFrom_27 : decode cX3_copyFrom 27 = .ok (.getfield 18, 3) := by decide +kernel
theorem dX3_copyFrom_30 : decode cX3_copyFrom 30 = .ok (.invokestatic 21, 3) := by decide +kernel
theorem dX3_copyFrom_33 : decode cX3_copyFrom 33 = .ok (.aload_n 0, 1) := by decide +kernel
theorem dX3_copyFrom_34 : decode cX3_copyFrom 34 = .ok (.aload_n 1, 1) := by decide +kernel
theorem dX3_copyFrom_35 : decode cX3_copyFrom 35 = .ok (.getfield 25, 3) := by decide +kernel
theorem dX3_copyFrom_38 : decode cX3_copyFrom 38 = .ok (.putfield 25, 3) := by decide +kernel
theorem dX3_copyFrom_41 : decode cX3_copyFrom 41 = .ok (.return_, 1) := by decide +kernel
theorem dX3_addPair_0 : decode cX3_addPair 0 = .ok (.aload_n 0, 1) := by decide +kernel
theorem dX3_addPair_1 : decode cX3_addPair 1 = .ok (.getfield 9, 3) := by decide +kernel
theorem dX3_addPair_4 : decode cX3_addPair 4 = .ok (.aload_n 0, 1) := by decide +kernel
theorem dX3_addPair_5 : decode cX3_addPair 5 = .ok (.getfield 25, 3) := by decide +kernel
theorem dX3_addPair_8 : decode cX3_addPair 8 = .ok (.iload_n 1, 1) := by decide +kernel
theorem dX3_addPair_9 : decode cX3_addPair 9 = .ok (.iastore, 1) := by decide +kernel
theorem dX3_addPair_10 : decode cX3_addPair 10 = .ok (.iconst 0, 1) := by decide +kernel
theorem dX3_addPair_11 : decode cX3_addPair 11 = .ok (.istore_n 2, 1) := by decide +kernel
theorem dX3_addPair_12 : decode cX3_addPair 12 = .ok (.iload_n 2, 1) := by decide +kernel
theorem dX3_addPair_13 : decode cX3_addPair 13 = .ok (.bipush 12, 2) := by decide +kernel
theorem dX3_addPair_15 : decode cX3_addPair 15 = .ok (.if_icmp .ge 25, 3) := by decide +kernel
theorem dX3_addPair_18 : decode cX3_addPair 18 = .ok (.aload_n 0, 1) := by decide +kernel
theorem dX3_addPair_19 : decode cX3_addPair 19 = .ok (.getfield 15, 3) := by decide +kernel
theorem dX3_addPair_22 : decode cX3_addPair 22 = .ok (.aload_n 0, 1) := by decide +kernel
theorem dX3_addPair_23 : decode cX3_addPair 23 = .ok (.getfield 25, 3) := by decide +kernel
theorem dX3_addPair_26 : decode cX3_addPair 26 = .ok (.bipush 12, 2) := by decide +kernel
theorem dX3_addPair_28 : decode cX3_addPair 28 = .ok (.imul, 1) := by decide +kernel
theorem dX3_addPair_29 : decode cX3_addPair 29 = .ok (.iload_n 2, 1) := by decide +kernel
theorem dX3_addPair_30 : decode cX3_addPair 30 = .ok (.iadd, 1) := by decide +kernel
theorem dX3_addPair_31 : decode cX3_addPair 31 = .ok (.bipush 50, 2) := by decide +kernel
theorem dX3_addPair_33 : decode cX3_addPair 33 = .ok (.iastore, 1) := by decide +kernel
theorem dX3_addPair_34 : decode cX3_addPair 34 = .ok (.iinc 2 1, 3) := by decide +kernel
theorem dX3_addPair_37 : decode cX3_addPair 37 = .ok (.goto (-25), 3) := by decide +kernel
theorem dX3_addPair_40 : decode cX3_addPair 40 = .ok (.aload_n 0, 1) := by decide +kernel
theorem dX3_addPair_41 : decode cX3_addPair 41 = .ok (.dup, 1) := by decide +kernel
theorem dX3_addPair_42 : decode cX3_addPair 42 = .ok (.getfield 25, 3) := by decide +kernel
theorem dX3_addPair_45 : decode cX3_addPair 45 = .ok (.iconst 1, 1) := by decide +kernel
theorem dX3_addPair_46 : decode cX3_addPair 46 = .ok (.iadd, 1) := by decide +kernel
theorem dX3_addPair_47 : decode cX3_addPair 47 = .ok (.putfield 25, 3) := by decide +kernel
theorem dX3_addPair_50 : decode cX3_addPair 50 = .ok (.aload_n 0, 1) := by decide +kernel
theorem dX3_addPair_51 : decode cX3_addPair 51 = .ok (.getfield 25, 3) := by decide +kernel
theorem dX3_addPair_54 : decode cX3_addPair 54 = .ok (.iconst 1, 1) := by decide +kernel
theorem dX3_addPair_55 : decode cX3_addPair 55 = .ok (.isub, 1) := by decide +kernel
theorem dX3_addPair_56 : decode cX3_addPair 56 = .ok (.ireturn, 1) := by decide +kernel
theorem dX3_wireOf_0 : decode cX3_wireOf 0 = .ok (.aload_n 0, 1) := by decide +kernel
theorem dX3_wireOf_1 : decode cX3_wireOf 1 = .ok (.getfield 15, 3) := by decide +kernel
theorem dX3_wireOf_4 : decode cX3_wireOf 4 = .ok (.iload_n 1, 1) := by decide +kernel
theorem dX3_wireOf_5 : decode cX3_wireOf 5 = .ok (.bipush 6, 2) := by decide +kernel
theorem dX3_wireOf_7 : decode cX3_wireOf 7 = .ok (.imul, 1) := by decide +kernel
theorem dX3_wireOf_8 : decode cX3_wireOf 8 = .ok (.iload_n 2, 1) := by decide +kernel
theorem dX3_wireOf_9 : decode cX3_wireOf 9 = .ok (.iadd, 1) := by decide +kernel
theorem dX3_wireOf_10 : decode cX3_wireOf 10 = .ok (.iaload, 1) := by decide +kernel
theorem dX3_wireOf_11 : decode cX3_wireOf 11 = .ok (.ireturn, 1) := by decide +kernel
theorem dX3_setWire_0 : decode cX3_setWire 0 = .ok (.aload_n 0, 1) := by decide +kernel
theorem dX3_setWire_1 : decode cX3_setWire 1 = .ok (.getfield 15, 3) := by decide +kernel
theorem dX3_setWire_4 : decode cX3_setWire 4 = .ok (.iload_n 1, 1) := by decide +kernel
theorem dX3_setWire_5 : decode cX3_setWire 5 = .ok (.bipush 6, 2) := by decide +kernel
theorem dX3_setWire_7 : decode cX3_setWire 7 = .ok (.imul, 1) := by decide +kernel
theorem dX3_setWire_8 : decode cX3_setWire 8 = .ok (.iload_n 2, 1) := by decide +kernel
theorem dX3_setWire_9 : decode cX3_setWire 9 = .ok (.iadd, 1) := by decide +kernel
theorem dX3_setWire_10 : decode cX3_setWire 10 = .ok (.iload_n 3, 1) := by decide +kernel
theorem dX3_setWire_11 : decode cX3_setWire 11 = .ok (.iastore, 1) := by decide +kernel
theorem dX3_setWire_12 : decode cX3_setWire 12 = .ok (.return_, 1) := by decide +kernel
theorem dX3_countSheet_0 : decode cX3_countSheet 0 = .ok (.aload_n 0, 1) := by decide +kernel
theorem dX3_countSheet_1 : decode cX3_countSheet 1 = .ok (.getfield 18, 3) := by decide +kernel
theorem dX3_countSheet_4 : decode cX3_countSheet 4 = .ok (.iload_n 1, 1) := by decide +kernel
theorem dX3_countSheet_5 : decode cX3_countSheet 5 = .ok (.dup2, 1) := by decide +kernel
theorem dX3_countSheet_6 : decode cX3_countSheet 6 = .ok (.iaload, 1) := by decide +kernel
theorem dX3_countSheet_7 : decode cX3_countSheet 7 = .ok (.iconst 1, 1) := by decide +kernel
theorem dX3_countSheet_8 : decode cX3_countSheet 8 = .ok (.iadd, 1) := by decide +kernel
theorem dX3_countSheet_9 : decode cX3_countSheet 9 = .ok (.iastore, 1) := by decide +kernel
theorem dX3_countSheet_10 : decode cX3_countSheet 10 = .ok (.aload_n 0, 1) := by decide +kernel
theorem dX3_countSheet_11 : decode cX3_countSheet 11 = .ok (.getfield 18, 3) := by decide +kernel
theorem dX3_countSheet_14 : decode cX3_countSheet 14 = .ok (.iload_n 1, 1) := by decide +kernel
theorem dX3_countSheet_15 : decode cX3_countSheet 15 = .ok (.iaload, 1) := by decide +kernel
theorem dX3_countSheet_16 : decode cX3_countSheet 16 = .ok (.bipush 50, 2) := by decide +kernel
theorem dX3_countSheet_18 : decode cX3_countSheet 18 = .ok (.irem, 1) := by decide +kernel
theorem dX3_countSheet_19 : decode cX3_countSheet 19 = .ok (.ifCond .eq 4, 3) := by decide +kernel
theorem dX3_countSheet_22 : decode cX3_countSheet 22 = .ok (.return_, 1) := by decide +kernel
theorem dX3_countSheet_23 : decode cX3_countSheet 23 = .ok (.aload_n 0, 1) := by decide +kernel
theorem dX3_countSheet_24 : decode cX3_countSheet 24 = .ok (.getfield 18, 3) := by decide +kernel
theorem dX3_countSheet_27 : decode cX3_countSheet 27 = .ok (.iload_n 1, 1) := by decide +kernel
theorem dX3_countSheet_28 : decode cX3_countSheet 28 = .ok (.iaload, 1) := by decide +kernel
theorem dX3_countSheet_29 : decode cX3_countSheet 29 = .ok (.bipush 50, 2) := by decide +kernel
theorem dX3_countSheet_31 : decode cX3_countSheet 31 = .ok (.idiv, 1) := by decide +kernel
theorem dX3_countSheet_32 : decode cX3_countSheet 32 = .ok (.istore_n 2, 1) := by decide +kernel
theorem dX3_countSheet_33 : decode cX3_countSheet 33 = .ok (.iload_n 1, 1) := by decide +kernel
theorem dX3_countSheet_34 : decode cX3_countSheet 34 = .ok (.bipush 6, 2) := by decide +kernel
theorem dX3_countSheet_36 : decode cX3_countSheet 36 = .ok (.imul, 1) := by decide +kernel
theorem dX3_countSheet_37 : decode cX3_countSheet 37 = .ok (.iload_n 2, 1) := by decide +kernel
theorem dX3_countSheet_38 : decode cX3_countSheet 38 = .ok (.iload_n 1, 1) := by decide +kernel
theorem dX3_countSheet_39 : decode cX3_countSheet 39 = .ok (.iadd, 1) := by decide +kernel
theorem dX3_countSheet_40 : decode cX3_countSheet 40 = .ok (.bipush 6, 2) := by decide +kernel
theorem dX3_countSheet_42 : decode cX3_countSheet 42 = .ok (.irem, 1) := by decide +kernel
theorem dX3_countSheet_43 : decode cX3_countSheet 43 = .ok (.iadd, 1) := by decide +kernel
theorem dX3_countSheet_44 : decode cX3_countSheet 44 = .ok (.istore_n 3, 1) := by decide +kernel
theorem dX3_countSheet_45 : decode cX3_countSheet 45 = .ok (.iload_n 2, 1) := by decide +kernel
theorem dX3_countSheet_46 : decode cX3_countSheet 46 = .ok (.bipush 6, 2) := by decide +kernel
theorem dX3_countSheet_48 : decode cX3_countSheet 48 = .ok (.idiv, 1) := by decide +kernel
theorem dX3_countSheet_49 : decode cX3_countSheet 49 = .ok (.iconst 2, 1) := by decide +kernel
theorem dX3_countSheet_50 : decode cX3_countSheet 50 = .ok (.irem, 1) := by decide +kernel
theorem dX3_countSheet_51 : decode cX3_countSheet 51 = .ok (.ifCond .ne 14, 3) := by decide +kernel
theorem dX3_countSheet_54 : decode cX3_countSheet 54 = .ok (.aload_n 0, 1) := by decide +kernel
theorem dX3_countSheet_55 : decode cX3_countSheet 55 = .ok (.getfield 15, 3) := by decide +kernel
theorem dX3_countSheet_58 : decode cX3_countSheet 58 = .ok (.iload_n 3, 1) := by decide +kernel
theorem dX3_countSheet_59 : decode cX3_countSheet 59 = .ok (.iaload, 1) := by decide +kernel
theorem dX3_countSheet_60 : decode cX3_countSheet 60 = .ok (.iconst 1, 1) := by decide +kernel
theorem dX3_countSheet_61 : decode cX3_countSheet 61 = .ok (.iadd, 1) := by decide +kernel
theorem dX3_countSheet_62 : decode cX3_countSheet 62 = .ok (.goto 11, 3) := by decide +kernel
theorem dX3_countSheet_65 : decode cX3_countSheet 65 = .ok (.aload_n 0, 1) := by decide +kernel
theorem dX3_countSheet_66 : decode cX3_countSheet 66 = .ok (.getfield 15, 3) := by decide +kernel
theorem dX3_countSheet_69 : decode cX3_countSheet 69 = .ok (.iload_n 3, 1) := by decide +kernel
theorem dX3_countSheet_70 : decode cX3_countSheet 70 = .ok (.iaload, 1) := by decide +kernel
theorem dX3_countSheet_71 : decode cX3_countSheet 71 = .ok (.iconst 1, 1) := by decide +kernel
theorem dX3_countSheet_72 : decode cX3_countSheet 72 = .ok (.isub, 1) := by decide +kernel
theorem dX3_countSheet_73 : decode cX3_countSheet 73 = .ok (.istore 4, 2) := by decide +kernel
theorem dX3_countSheet_75 : decode cX3_countSheet 75 = .ok (.iload 4, 2) := by decide +kernel
theorem dX3_countSheet_77 : decode cX3_countSheet 77 = .ok (.ifCond .lt 18, 3) := by decide +kernel
theorem dX3_countSheet_80 : decode cX3_countSheet 80 = .ok (.iload 4, 2) := by decide +kernel
theorem dX3_countSheet_82 : decode cX3_countSheet 82 = .ok (.bipush 99, 2) := by decide +kernel
theorem dX3_countSheet_84 : decode cX3_countSheet 84 = .ok (.if_icmp .gt 11, 3) := by decide +kernel
theorem dX3_countSheet_87 : decode cX3_countSheet 87 = .ok (.aload_n 0, 1) := by decide +kernel
theorem dX3_countSheet_88 : decode cX3_countSheet 88 = .ok (.getfield 15, 3) := by decide +kernel
theorem dX3_countSheet_91 : decode cX3_countSheet 91 = .ok (.iload_n 3, 1) := by decide +kernel
theorem dX3_countSheet_92 : decode cX3_countSheet 92 = .ok (.iload 4, 2) := by decide +kernel
theorem dX3_countSheet_94 : decode cX3_countSheet 94 = .ok (.iastore, 1) := by decide +kernel
theorem dX3_countSheet_95 : decode cX3_countSheet 95 = .ok (.return_, 1) := by decide +kernel
theorem dX4_init_0 : decode cX4_init 0 = .ok (.aload_n 0, 1) := by decide +kernel
theorem dX4_init_1 : decode cX4_init 1 = .ok (.invokespecial 3, 3) := by decide +kernel
theorem dX4_init_4 : decode cX4_init 4 = .ok (.aload_n 0, 1) := by decide +kernel
theorem dX4_init_5 : decode cX4_init 5 = .ok (.bipush 6, 2) := by decide +kernel
theorem dX4_init_7 : decode cX4_init 7 = .ok (.newarray .int, 2) := by decide +kernel
theorem dX4_init_9 : decode cX4_init 9 = .ok (.putfield 9, 3) := by decide +kernel
theorem dX4_init_12 : decode cX4_init 12 = .ok (.aload_n 0, 1) := by decide +kernel
theorem dX4_init_13 : decode cX4_init 13 = .ok (.aload_n 1, 1) := by decide +kernel
theorem dX4_init_14 : decode cX4_init 14 = .ok (.putfield 15, 3) := by decide +kernel
theorem dX4_init_17 : decode cX4_init 17 = .ok (.aload_n 0, 1) := by decide +kernel
theorem dX4_init_18 : decode cX4_init 18 = .ok (.getfield 9, 3) := by decide +kernel
theorem dX4_init_21 : decode cX4_init 21 = .ok (.iconst (-1), 1) := by decide +kernel
theorem dX4_init_22 : decode cX4_init 22 = .ok (.invokestatic 19, 3) := by decide +kernel
theorem dX4_init_25 : decode cX4_init 25 = .ok (.return_, 1) := by decide +kernel
theorem dX4_countNear_0 : decode cX4_countNear 0 = .ok (.iconst 0, 1) := by decide +kernel
theorem dX4_countNear_1 : decode cX4_countNear 1 = .ok (.istore_n 2, 1) := by decide +kernel
theorem dX4_countNear_2 : decode cX4_countNear 2 = .ok (.iconst 0, 1) := by decide +kernel
theorem dX4_countNear_3 : decode cX4_countNear 3 = .ok (.istore_n 3, 1) := by decide +kernel
theorem dX4_countNear_4 : decode cX4_countNear 4 = .ok (.iload_n 3, 1) := by decide +kernel
theorem dX4_countNear_5 : decode cX4_countNear 5 = .ok (.aload_n 0, 1) := by decide +kernel
theorem dX4_countNear_6 : decode cX4_countNear 6 = .ok (.getfield 15, 3) := by decide +kernel
theorem dX4_countNear_9 : decode cX4_countNear 9 = .ok (.getfield 25, 3) := by decide +kernel
theorem dX4_countNear_12 : decode cX4_countNear 12 = .ok (.if_icmp .ge 51, 3) := by decide +kernel
theorem dX4_countNear_15 : decode cX4_countNear 15 = .ok (.iconst 0, 1) := by decide +kernel
theorem dX4_countNear_16 : decode cX4_countNear 16 = .ok (.istore 4, 2) := by decide +kernel
theorem dX4_countNear_18 : decode cX4_countNear 18 = .ok (.iload 4, 2) := by decide +kernel
theorem dX4_countNear_20 : decode cX4_countNear 20 = .ok (.iconst 4, 1) := by decide +kernel
theorem dX4_countNear_21 : decode cX4_countNear 21 = .ok (.if_icmp .ge 36, 3) := by decide +kernel
theorem dX4_countNear_24 : decode cX4_countNear 24 = .ok (.aload_n 0, 1) := by decide +kernel
theorem dX4_countNear_25 : decode cX4_countNear 25 = .ok (.iload_n 3, 1) := by decide +kernel
theorem dX4_countNear_26 : decode cX4_countNear 26 = .ok (.iload 4, 2) := by decide +kernel
theorem dX4_countNear_28 : decode cX4_countNear 28 = .ok (.iload_n 1, 1) := by decide +kernel
theorem dX4_countNear_29 : decode cX4_countNear 29 = .ok (.invokevirtual 31, 3) := by decide +kernel
theorem dX4_countNear_32 : decode cX4_countNear 32 = .ok (.ifCond .eq 19, 3) := by decide +kernel
theorem dX4_countNear_35 : decode cX4_countNear 35 = .ok (.iload_n 2, 1) := by decide +kernel
theorem dX4_countNear_36 : decode cX4_countNear 36 = .ok (.aload_n 0, 1) := by decide +kernel
theorem dX4_countNear_37 : decode cX4_countNear 37 = .ok (.getfield 15, 3) := by decide +kernel
theorem dX4_countNear_40 : decode cX4_countNear 40 = .ok (.getfield 35, 3) := by decide +kernel
theorem dX4_countNear_43 : decode cX4_countNear 43 = .ok (.iload_n 3, 1) := by decide +kernel
theorem dX4_countNear_44 : decode cX4_countNear 44 = .ok (.iload 4, 2) := by decide +kernel
theorem dX4_countNear_46 : decode cX4_countNear 46 = .ok (.invokevirtual 38, 3) := by decide +kernel
theorem dX4_countNear_49 : decode cX4_countNear 49 = .ok (.iadd, 1) := by decide +kernel
theorem dX4_countNear_50 : decode cX4_countNear 50 = .ok (.istore_n 2, 1) := by decide +kernel
theorem dX4_countNear_51 : decode cX4_countNear 51 = .ok (.iinc 4 1, 3) := by decide +kernel
theorem dX4_countNear_54 : decode cX4_countNear 54 = .ok (.goto (-36), 3) := by decide +kernel
theorem dX4_countNear_57 : decode cX4_countNear 57 = .ok (.iinc 3 1, 3) := by decide +kernel
theorem dX4_countNear_60 : decode cX4_countNear 60 = .ok (.goto (-56), 3) := by decide +kernel
theorem dX4_countNear_63 : decode cX4_countNear 63 = .ok (.iload_n 2, 1) := by decide +kernel
theorem dX4_countNear_64 : decode cX4_countNear 64 = .ok (.ireturn, 1) := by decide +kernel
theorem dX4_liesBy_0 : decode cX4_liesBy 0 = .ok (.iconst 0, 1) := by decide +kernel
theorem dX4_liesBy_1 : decode cX4_liesBy 1 = .ok (.istore 4, 2) := by decide +kernel
theorem dX4_liesBy_3 : decode cX4_liesBy 3 = .ok (.iload 4, 2) := by decide +kernel
theorem dX4_liesBy_5 : decode cX4_liesBy 5 = .ok (.bipush 6, 2) := by decide +kernel
theorem dX4_liesBy_7 : decode cX4_liesBy 7 = .ok (.if_icmp .ge 23, 3) := by decide +kernel
theorem dX4_liesBy_10 : decode cX4_liesBy 10 = .ok (.aload_n 0, 1) := by decide +kernel
theorem dX4_liesBy_11 : decode cX4_liesBy 11 = .ok (.iload_n 1, 1) := by decide +kernel
theorem dX4_liesBy_12 : decode cX4_liesBy 12 = .ok (.iload_n 2, 1) := by decide +kernel
theorem dX4_liesBy_13 : decode cX4_liesBy 13 = .ok (.iload 4, 2) := by decide +kernel
theorem dX4_liesBy_15 : decode cX4_liesBy 15 = .ok (.invokevirtual 44, 3) := by decide +kernel
theorem dX4_liesBy_18 : decode cX4_liesBy 18 = .ok (.iload_n 3, 1) := by decide +kernel
theorem dX4_liesBy_19 : decode cX4_liesBy 19 = .ok (.if_icmp .le 5, 3) := by decide +kernel
theorem dX4_liesBy_22 : decode cX4_liesBy 22 = .ok (.iconst 0, 1) := by decide +kernel
theorem dX4_liesBy_23 : decode cX4_liesBy 23 = .ok (.ireturn, 1) := by decide +kernel
theorem dX4_liesBy_24 : decode cX4_liesBy 24 = .ok (.iinc 4 1, 3) := by decide +kernel
theorem dX4_liesBy_27 : decode cX4_liesBy 27 = .ok (.goto (-24), 3) := by decide +kernel
theorem dX4_liesBy_30 : decode cX4_liesBy 30 = .ok (.iconst 1, 1) := by decide +kernel
theorem dX4_liesBy_31 : decode cX4_liesBy 31 = .ok (.ireturn, 1) := by decide +kernel
theorem dX4_differsBy_0 : decode cX4_differsBy 0 = .ok (.aload_n 0, 1) := by decide +kernel
theorem dX4_differsBy_1 : decode cX4_differsBy 1 = .ok (.getfield 9, 3) := by decide +kernel
theorem dX4_differsBy_4 : decode cX4_differsBy 4 = .ok (.iload_n 3, 1) := by decide +kernel
theorem dX4_differsBy_5 : decode cX4_differsBy 5 = .ok (.iaload, 1) := by decide +kernel
theorem dX4_differsBy_6 : decode cX4_differsBy 6 = .ok (.iconst (-1), 1) := by decide +kernel
theorem dX4_differsBy_7 : decode cX4_differsBy 7 = .ok (.if_icmp .ne 5, 3) := by decide +kernel
theorem dX4_differsBy_10 : decode cX4_differsBy 10 = .ok (.iconst 0, 1) := by decide +kernel
theorem dX4_differsBy_11 : decode cX4_differsBy 11 = .ok (.ireturn, 1) := by decide +kernel
theorem dX4_differsBy_12 : decode cX4_differsBy 12 = .ok (.aload_n 0, 1) := by decide +kernel
theorem dX4_differsBy_13 : decode cX4_differsBy 13 = .ok (.getfield 9, 3) := by decide +kernel
theorem dX4_differsBy_16 : decode cX4_differsBy 16 = .ok (.iload_n 3, 1) := by decide +kernel
theorem dX4_differsBy_17 : decode cX4_differsBy 17 = .ok (.iaload, 1) := by decide +kernel
theorem dX4_differsBy_18 : decode cX4_differsBy 18 = .ok (.aload_n 0, 1) := by decide +kernel
theorem dX4_differsBy_19 : decode cX4_differsBy 19 = .ok (.getfield 15, 3) := by decide +kernel
theorem dX4_differsBy_22 : decode cX4_differsBy 22 = .ok (.getfield 35, 3) := by decide +kernel
theorem dX4_differsBy_25 : decode cX4_differsBy 25 = .ok (.iload_n 1, 1) := by decide +kernel
theorem dX4_differsBy_26 : decode cX4_differsBy 26 = .ok (.iload_n 2, 1) := by decide +kernel
theorem dX4_differsBy_27 : decode cX4_differsBy 27 = .ok (.iload_n 3, 1) := by decide +kernel
theorem dX4_differsBy_28 : decode cX4_differsBy 28 = .ok (.invokevirtual 48, 3) := by decide +kernel
theorem dX4_differsBy_31 : decode cX4_differsBy 31 = .ok (.isub, 1) := by decide +kernel
theorem dX4_differsBy_32 : decode cX4_differsBy 32 = .ok (.invokestatic 51, 3) := by decide +kernel
theorem dX4_differsBy_35 : decode cX4_differsBy 35 = .ok (.ireturn, 1) := by decide +kernel
theorem dX4_nearnessOf_0 : decode cX4_nearnessOf 0 = .ok (.iconst 0, 1) := by decide +kernel
theorem dX4_nearnessOf_1 : decode cX4_nearnessOf 1 = .ok (.istore_n 3, 1) := by decide +kernel
theorem dX4_nearnessOf_2 : decode cX4_nearnessOf 2 = .ok (.iconst 0, 1) := by decide +kernel
theorem dX4_nearnessOf_3 : decode cX4_nearnessOf 3 = .ok (.istore 4, 2) := by decide +kernel
theorem dX4_nearnessOf_5 : decode cX4_nearnessOf 5 = .ok (.iload 4, 2) := by decide +kernel
theorem dX4_nearnessOf_7 : decode cX4_nearnessOf 7 = .ok (.bipush 6, 2) := by decide +kernel
theorem dX4_nearnessOf_9 : decode cX4_nearnessOf 9 = .ok (.if_icmp .ge 20, 3) := by decide +kernel
theorem dX4_nearnessOf_12 : decode cX4_nearnessOf 12 = .ok (.iload_n 3, 1) := by decide +kernel
theorem dX4_nearnessOf_13 : decode cX4_nearnessOf 13 = .ok (.aload_n 0, 1) := by decide +kernel
theorem dX4_nearnessOf_14 : decode cX4_nearnessOf 14 = .ok (.iload_n 1, 1) := by decide +kernel
theorem dX4_nearnessOf_15 : decode cX4_nearnessOf 15 = .ok (.iload_n 2, 1) := by decide +kernel
theorem dX4_nearnessOf_16 : decode cX4_nearnessOf 16 = .ok (.iload 4, 2) := by decide +kernel
theorem dX4_nearnessOf_18 : decode cX4_nearnessOf 18 = .ok (.invokevirtual 44, 3) := by decide +kernel
theorem dX4_nearnessOf_21 : decode cX4_nearnessOf 21 = .ok (.iadd, 1) := by decide +kernel
theorem dX4_nearnessOf_22 : decode cX4_nearnessOf 22 = .ok (.istore_n 3, 1) := by decide +kernel
theorem dX4_nearnessOf_23 : decode cX4_nearnessOf 23 = .ok (.iinc 4 1, 3) := by decide +kernel
theorem dX4_nearnessOf_26 : decode cX4_nearnessOf 26 = .ok (.goto (-21), 3) := by decide +kernel
theorem dX4_nearnessOf_29 : decode cX4_nearnessOf 29 = .ok (.iload_n 3, 1) := by decide +kernel
theorem dX4_nearnessOf_30 : decode cX4_nearnessOf 30 = .ok (.ireturn, 1) := by decide +kernel
theorem dX4_findNearest_0 : decode cX4_findNearest 0 = .ok (.aload_n 0, 1) := by decide +kernel
theorem dX4_findNearest_1 : decode cX4_findNearest 1 = .ok (.sipush 1000, 3) := by decide +kernel
theorem dX4_findNearest_4 : decode cX4_findNearest 4 = .ok (.putfield 57, 3) := by decide +kernel
theorem dX4_findNearest_7 : decode cX4_findNearest 7 = .ok (.iconst 0, 1) := by decide +kernel
theorem dX4_findNearest_8 : decode cX4_findNearest 8 = .ok (.istore_n 1, 1) := by decide +kernel
theorem dX4_findNearest_9 : decode cX4_findNearest 9 = .ok (.iload_n 1, 1) := by decide +kernel
theorem dX4_findNearest_10 : decode cX4_findNearest 10 = .ok (.aload_n 0, 1) := by decide +kernel
theorem dX4_findNearest_11 : decode cX4_findNearest 11 = .ok (.getfield 15, 3) := by decide +kernel
theorem dX4_findNearest_14 : decode cX4_findNearest 14 = .ok (.getfield 25, 3) := by decide +kernel
theorem dX4_findNearest_17 : decode cX4_findNearest 17 = .ok (.if_icmp .ge 43, 3) := by decide +kernel
theorem dX4_findNearest_20 : decode cX4_findNearest 20 = .ok (.iconst 0, 1) := by decide +kernel
theorem dX4_findNearest_21 : decode cX4_findNearest 21 = .ok (.istore_n 2, 1) := by decide +kernel
theorem dX4_findNearest_22 : decode cX4_findNearest 22 = .ok (.iload_n 2, 1) := by decide +kernel
theorem dX4_findNearest_23 : decode cX4_findNearest 23 = .ok (.iconst 4, 1) := by decide +kernel
theorem dX4_findNearest_24 : decode cX4_findNearest 24 = .ok (.if_icmp .ge 30, 3) := by decide +kernel
theorem dX4_findNearest_27 : decode cX4_findNearest 27 = .ok (.aload_n 0, 1) := by decide +kernel
theorem dX4_findNearest_28 : decode cX4_findNearest 28 = .ok (.getfield 15, 3) := by decide +kernel
theorem dX4_findNearest_31 : decode cX4_findNearest 31 = .ok (.getfield 35, 3) := by decide +kernel
theorem dX4_findNearest_34 : decode cX4_findNearest 34 = .ok (.iload_n 1, 1) := by decide +kernel
theorem dX4_findNearest_35 : decode cX4_findNearest 35 = .ok (.iload_n 2, 1) := by decide +kernel
theorem dX4_findNearest_36 : decode cX4_findNearest 36 = .ok (.invokevirtual 38, 3) := by decide +kernel
theorem dX4_findNearest_39 : decode cX4_findNearest 39 = .ok (.ifCond .le 9, 3) := by decide +kernel
theorem dX4_findNearest_42 : decode cX4_findNearest 42 = .ok (.aload_n 0, 1) := by decide +kernel
theorem dX4_findNearest_43 : decode cX4_findNearest 43 = .ok (.iload_n 1, 1) := by decide +kernel
theorem dX4_findNearest_44 : decode cX4_findNearest 44 = .ok (.iload_n 2, 1) := by decide +kernel
theorem dX4_findNearest_45 : decode cX4_findNearest 45 = .ok (.invokevirtual 60, 3) := by decide +kernel
theorem dX4_findNearest_48 : decode cX4_findNearest 48 = .ok (.iinc 2 1, 3) := by decide +kernel
theorem dX4_findNearest_51 : decode cX4_findNearest 51 = .ok (.goto (-29), 3) := by decide +kernel
theorem dX4_findNearest_54 : decode cX4_findNearest 54 = .ok (.iinc 1 1, 3) := by decide +kernel
theorem dX4_findNearest_57 : decode cX4_findNearest 57 = .ok (.goto (-48), 3) := by decide +kernel
theorem dX4_findNearest_60 : decode cX4_findNearest 60 = .ok (.return_, 1) := by decide +kernel
theorem dX4_compare_0 : decode cX4_compare 0 = .ok (.aload_n 0, 1) := by decide +kernel
theorem dX4_compare_1 : decode cX4_compare 1 = .ok (.iload_n 1, 1) := by decide +kernel
theorem dX4_compare_2 : decode cX4_compare 2 = .ok (.iload_n 2, 1) := by decide +kernel
theorem dX4_compare_3 : decode cX4_compare 3 = .ok (.invokevirtual 64, 3) := by decide +kernel
theorem dX4_compare_6 : decode cX4_compare 6 = .ok (.istore_n 3, 1) := by decide +kernel
theorem dX4_compare_7 : decode cX4_compare 7 = .ok (.iload_n 3, 1) := by decide +kernel
theorem dX4_compare_8 : decode cX4_compare 8 = .ok (.aload_n 0, 1) := by decide +kernel
theorem dX4_compare_9 : decode cX4_compare 9 = .ok (.getfield 57, 3) := by decide +kernel
theorem dX4_compare_12 : decode cX4_compare 12 = .ok (.if_icmp .ge 29, 3) := by decide +kernel
theorem dX4_compare_15 : decode cX4_compare 15 = .ok (.aload_n 0, 1) := by decide +kernel
theorem dX4_compare_16 : decode cX4_compare 16 = .ok (.iload_n 3, 1) := by decide +kernel
theorem dX4_compare_17 : decode cX4_compare 17 = .ok (.putfield 57, 3) := by decide +kernel
theorem dX4_compare_20 : decode cX4_compare 20 = .ok (.aload_n 0, 1) := by decide +kernel
theorem dX4_compare_21 : decode cX4_compare 21 = .ok (.iload_n 1, 1) := by decide +kernel
theorem dX4_compare_22 : decode cX4_compare 22 = .ok (.putfield 67, 3) := by decide +kernel
theorem dX4_compare_25 : decode cX4_compare 25 = .ok (.aload_n 0, 1) := by decide +kernel
theorem dX4_compare_26 : decode cX4_compare 26 = .ok (.aload_n 0, 1) := by decide +kernel
theorem dX4_compare_27 : decode cX4_compare 27 = .ok (.getfield 15, 3) := by decide +kernel
theorem dX4_compare_30 : decode cX4_compare 30 = .ok (.getfield 35, 3) := by decide +kernel
theorem dX4_compare_33 : decode cX4_compare 33 = .ok (.iload_n 1, 1) := by decide +kernel
theorem dX4_compare_34 : decode cX4_compare 34 = .ok (.iload_n 2, 1) := by decide +kernel
theorem dX4_compare_35 : decode cX4_compare 35 = .ok (.invokevirtual 70, 3) := by decide +kernel
theorem dX4_compare_38 : decode cX4_compare 38 = .ok (.putfield 73, 3) := by decide +kernel
theorem dX4_compare_41 : decode cX4_compare 41 = .ok (.return_, 1) := by decide +kernel
theorem dX4_hourOf_0 : decode cX4_hourOf 0 = .ok (.bipush (-9), 2) := by decide +kernel
theorem dX4_hourOf_2 : decode cX4_hourOf 2 = .ok (.istore 4, 2) := by decide +kernel
theorem dX4_hourOf_4 : decode cX4_hourOf 4 = .ok (.iconst 0, 1) := by decide +kernel
theorem dX4_hourOf_5 : decode cX4_hourOf 5 = .ok (.istore 5, 2) := by decide +kernel
theorem dX4_hourOf_7 : decode cX4_hourOf 7 = .ok (.iload 5, 2) := by decide +kernel
theorem dX4_hourOf_9 : decode cX4_hourOf 9 = .ok (.aload_n 0, 1) := by decide +kernel
theorem dX4_hourOf_10 : decode cX4_hourOf 10 = .ok (.getfield 15, 3) := by decide +kernel
theorem dX4_hourOf_13 : decode cX4_hourOf 13 = .ok (.getfield 25, 3) := by decide +kernel
theorem dX4_hourOf_16 : decode cX4_hourOf 16 = .ok (.if_icmp .ge 39, 3) := by decide +kernel
theorem dX4_hourOf_19 : decode cX4_hourOf 19 = .ok (.aload_n 0, 1) := by decide +kernel
theorem dX4_hourOf_20 : decode cX4_hourOf 20 = .ok (.iload 5, 2) := by decide +kernel
theorem dX4_hourOf_22 : decode cX4_hourOf 22 = .ok (.iload_n 1, 1) := by decide +kernel
theorem dX4_hourOf_23 : decode cX4_hourOf 23 = .ok (.iload_n 2, 1) := by decide +kernel
theorem dX4_hourOf_24 : decode cX4_hourOf 24 = .ok (.invokevirtual 76, 3) := by decide +kernel
theorem dX4_hourOf_27 : decode cX4_hourOf 27 = .ok (.ifCond .eq 22, 3) := by decide +kernel
theorem dX4_hourOf_30 : decode cX4_hourOf 30 = .ok (.aload_n 0, 1) := by decide +kernel
theorem dX4_hourOf_31 : decode cX4_hourOf 31 = .ok (.getfield 15, 3) := by decide +kernel
theorem dX4_hourOf_34 : decode cX4_hourOf 34 = .ok (.getfield 79, 3) := by decide +kernel
theorem dX4_hourOf_37 : decode cX4_hourOf 37 = .ok (.iload 5, 2) := by decide +kernel
theorem dX4_hourOf_39 : decode cX4_hourOf 39 = .ok (.iaload, 1) := by decide +kernel
theorem dX4_hourOf_40 : decode cX4_hourOf 40 = .ok (.istore 4, 2) := by decide +kernel
theorem dX4_hourOf_42 : decode cX4_hourOf 42 = .ok (.iload_n 3, 1) := by decide +kernel
theorem dX4_hourOf_43 : decode cX4_hourOf 43 = .ok (.ifCond .ne 6, 3) := by decide +kernel
theorem dX4_hourOf_46 : decode cX4_hourOf 46 = .ok (.iload 4, 2) := by decide +kernel
theorem dX4_hourOf_48 : decode cX4_hourOf 48 = .ok (.ireturn, 1) := by decide +kernel
theorem dX4_hourOf_49 : decode cX4_hourOf 49 = .ok (.iinc 5 1, 3) := by decide +kernel
theorem dX4_hourOf_52 : decode cX4_hourOf 52 = .ok (.goto (-45), 3) := by decide +kernel
theorem dX4_hourOf_55 : decode cX4_hourOf 55 = .ok (.iload 4, 2) := by decide +kernel
theorem dX4_hourOf_57 : decode cX4_hourOf 57 = .ok (.ireturn, 1) := by decide +kernel
theorem dX4_hasNear_0 : decode cX4_hasNear 0 = .ok (.aload_n 0, 1) := by decide +kernel
theorem dX4_hasNear_1 : decode cX4_hasNear 1 = .ok (.getfield 15, 3) := by decide +kernel
theorem dX4_hasNear_4 : decode cX4_hasNear 4 = .ok (.getfield 82, 3) := by decide +kernel
theorem dX4_hasNear_7 : decode cX4_hasNear 7 = .ok (.iload_n 1, 1) := by decide +kernel
theorem dX4_hasNear_8 : decode cX4_hasNear 8 = .ok (.iaload, 1) := by decide +kernel
theorem dX4_hasNear_9 : decode cX4_hasNear 9 = .ok (.iload_n 2, 1) := by decide +kernel
theorem dX4_hasNear_10 : decode cX4_hasNear 10 = .ok (.iconst 2, 1) := by decide +kernel
theorem dX4_hasNear_11 : decode cX4_hasNear 11 = .ok (.idiv, 1) := by decide +kernel
theorem dX4_hasNear_12 : decode cX4_hasNear 12 = .ok (.if_icmp .eq 5, 3) := by decide +kernel
theorem dX4_hasNear_15 : decode cX4_hasNear 15 = .ok (.iconst 0, 1) := by decide +kernel
theorem dX4_hasNear_16 : decode cX4_hasNear 16 = .ok (.ireturn, 1) := by decide +kernel
theorem dX4_hasNear_17 : decode cX4_hasNear 17 = .ok (.iload_n 2, 1) := by decide +kernel
theorem dX4_hasNear_18 : decode cX4_hasNear 18 = .ok (.iconst 2, 1) := by decide +kernel
theorem dX4_hasNear_19 : decode cX4_hasNear 19 = .ok (.irem, 1) := by decide +kernel
theorem dX4_hasNear_20 : decode cX4_hasNear 20 = .ok (.istore 4, 2) := by decide +kernel
theorem dX4_hasNear_22 : decode cX4_hasNear 22 = .ok (.iload 4, 2) := by decide +kernel
theorem dX4_hasNear_24 : decode cX4_hasNear 24 = .ok (.iconst 4, 1) := by decide +kernel
theorem dX4_hasNear_25 : decode cX4_hasNear 25 = .ok (.if_icmp .ge 38, 3) := by decide +kernel
theorem dX4_hasNear_28 : decode cX4_hasNear 28 = .ok (.aload_n 0, 1) := by decide +kernel
theorem dX4_hasNear_29 : decode cX4_hasNear 29 = .ok (.getfield 15, 3) := by decide +kernel
theorem dX4_hasNear_32 : decode cX4_hasNear 32 = .ok (.getfield 35, 3) := by decide +kernel
theorem dX4_hasNear_35 : decode cX4_hasNear 35 = .ok (.iload_n 1, 1) := by decide +kernel
theorem dX4_hasNear_36 : decode cX4_hasNear 36 = .ok (.iload 4, 2) := by decide +kernel
theorem dX4_hasNear_38 : decode cX4_hasNear 38 = .ok (.invokevirtual 38, 3) := by decide +kernel
theorem dX4_hasNear_41 : decode cX4_hasNear 41 = .ok (.ifCond .le 16, 3) := by decide +kernel
theorem dX4_hasNear_44 : decode cX4_hasNear 44 = .ok (.aload_n 0, 1) := by decide +kernel
theorem dX4_hasNear_45 : decode cX4_hasNear 45 = .ok (.iload_n 1, 1) := by decide +kernel
theorem dX4_hasNear_46 : decode cX4_hasNear 46 = .ok (.iload 4, 2) := by decide +kernel
theorem dX4_hasNear_48 : decode cX4_hasNear 48 = .ok (.iload_n 3, 1) := by decide +kernel
theorem dX4_hasNear_49 : decode cX4_hasNear 49 = .ok (.invokevirtual 31, 3) := by decide +kernel
theorem dX4_hasNear_52 : decode cX4_hasNear 52 = .ok (.ifCond .eq 5, 3) := by decide +kernel
theorem dX4_hasNear_55 : decode cX4_hasNear 55 = .ok (.iconst 1, 1) := by decide +kernel
theorem dX4_hasNear_56 : decode cX4_hasNear 56 = .ok (.ireturn, 1) := by decide +kernel
theorem dX4_hasNear_57 : decode cX4_hasNear 57 = .ok (.iinc 4 2, 3) := by decide +kernel
theorem dX4_hasNear_60 : decode cX4_hasNear 60 = .ok (.goto (-38), 3) := by decide +kernel
theorem dX4_hasNear_63 : decode cX4_hasNear 63 = .ok (.iconst 0, 1) := by decide +kernel
theorem dX4_hasNear_64 : decode cX4_hasNear 64 = .ok (.ireturn, 1) := by decide +kernel
theorem dX5_init_0 : decode cX5_init 0 = .ok (.aload_n 0, 1) := by decide +kernel
theorem dX5_init_1 : decode cX5_init 1 = .ok (.invokespecial 3, 3) := by decide +kernel
theorem dX5_init_4 : decode cX5_init 4 = .ok (.aload_n 0, 1) := by decide +kernel
theorem dX5_init_5 : decode cX5_init 5 = .ok (.bipush 12, 2) := by decide +kernel
theorem dX5_init_7 : decode cX5_init 7 = .ok (.newarray .int, 2) := by decide +kernel
theorem dX5_init_9 : decode cX5_init 9 = .ok (.putfield 9, 3) := by decide +kernel
theorem dX5_init_12 : decode cX5_init 12 = .ok (.aload_n 0, 1) := by decide +kernel
theorem dX5_init_13 : decode cX5_init 13 = .ok (.bipush 12, 2) := by decide +kernel
theorem dX5_init_15 : decode cX5_init 15 = .ok (.newarray .int, 2) := by decide +kernel
theorem dX5_init_17 : decode cX5_init 17 = .ok (.putfield 15, 3) := by decide +kernel
theorem dX5_init_20 : decode cX5_init 20 = .ok (.aload_n 0, 1) := by decide +kernel
theorem dX5_init_21 : decode cX5_init 21 = .ok (.bipush 12, 2) := by decide +kernel
theorem dX5_init_23 : decode cX5_init 23 = .ok (.newarray .int, 2) := by decide +kernel
theorem dX5_init_25 : decode cX5_init 25 = .ok (.putfield 18, 3) := by decide +kernel
theorem dX5_init_28 : decode cX5_init 28 = .ok (.aload_n 0, 1) := by decide +kernel
theorem dX5_init_29 : decode cX5_init 29 = .ok (.bipush 12, 2) := by decide +kernel
theorem dX5_init_31 : decode cX5_init 31 = .ok (.newarray .int, 2) := by decide +kernel
theorem dX5_init_33 : decode cX5_init 33 = .ok (.putfield 21, 3) := by decide +kernel
theorem dX5_init_36 : decode cX5_init 36 = .ok (.aload_n 0, 1) := by decide +kernel
theorem dX5_init_37 : decode cX5_init 37 = .ok (.bipush 12, 2) := by decide +kernel
theorem dX5_init_39 : decode cX5_init 39 = .ok (.newarray .int, 2) := by decide +kernel
theorem dX5_init_41 : decode cX5_init 41 = .ok (.putfield 24, 3) := by decide +kernel
theorem dX5_init_44 : decode cX5_init 44 = .ok (.aload_n 0, 1) := by decide +kernel
theorem dX5_init_45 : decode cX5_init 45 = .ok (.bipush 12, 2) := by decide +kernel
theorem dX5_init_47 : decode cX5_init 47 = .ok (.newarray .int, 2) := by decide +kernel
theorem dX5_init_49 : decode cX5_init 49 = .ok (.putfield 27, 3) := by decide +kernel
theorem dX5_init_52 : decode cX5_init 52 = .ok (.aload_n 0, 1) := by decide +kernel
theorem dX5_init_53 : decode cX5_init 53 = .ok (.bipush 12, 2) := by decide +kernel
theorem dX5_init_55 : decode cX5_init 55 = .ok (.newarray .int, 2) := by decide +kernel
theorem dX5_init_57 : decode cX5_init 57 = .ok (.putfield 30, 3) := by decide +kernel
theorem dX5_init_60 : decode cX5_init 60 = .ok (.return_, 1) := by decide +kernel
theorem dX5_take_0 : decode cX5_take 0 = .ok (.aload_n 0, 1) := by decide +kernel
theorem dX5_take_1 : decode cX5_take 1 = .ok (.getfield 9, 3) := by decide +kernel
theorem dX5_take_4 : decode cX5_take 4 = .ok (.aload_n 0, 1) := by decide +kernel
theorem dX5_take_5 : decode cX5_take 5 = .ok (.getfield 33, 3) := by decide +kernel
theorem dX5_take_8 : decode cX5_take 8 = .ok (.iload_n 1, 1) := by decide +kernel
theorem dX5_take_9 : decode cX5_take 9 = .ok (.iastore, 1) := by decide +kernel
theorem dX5_take_10 : decode cX5_take 10 = .ok (.aload_n 0, 1) := by decide +kernel
theorem dX5_take_11 : decode cX5_take 11 = .ok (.getfield 15, 3) := by decide +kernel
theorem dX5_take_14 : decode cX5_take 14 = .ok (.aload_n 0, 1) := by decide +kernel
theorem dX5_take_15 : decode cX5_take 15 = .ok (.getfield 33, 3) := by decide +kernel
theorem dX5_take_18 : decode cX5_take 18 = .ok (.iload_n 2, 1) := by decide +kernel
theorem dX5_take_19 : decode cX5_take 19 = .ok (.iastore, 1) := by decide +kernel
theorem dX5_take_20 : decode cX5_take 20 = .ok (.aload_n 0, 1) := by decide +kernel
theorem dX5_take_21 : decode cX5_take 21 = .ok (.getfield 18, 3) := by decide +kernel
theorem dX5_take_24 : decode cX5_take 24 = .ok (.aload_n 0, 1) := by decide +kernel
theorem dX5_take_25 : decode cX5_take 25 = .ok (.getfield 33, 3) := by decide +kernel
theorem dX5_take_28 : decode cX5_take 28 = .ok (.iload_n 3, 1) := by decide +kernel
theorem dX5_take_29 : decode cX5_take 29 = .ok (.iastore, 1) := by decide +kernel
theorem dX5_take_30 : decode cX5_take 30 = .ok (.aload_n 0, 1) := by decide +kernel
theorem dX5_take_31 : decode cX5_take 31 = .ok (.getfield 21, 3) := by decide +kernel
theorem dX5_take_34 : decode cX5_take 34 = .ok (.aload_n 0, 1) := by decide +kernel
theorem dX5_take_35 : decode cX5_take 35 = .ok (.getfield 33, 3) := by decide +kernel
theorem dX5_take_38 : decode cX5_take 38 = .ok (.iload 4, 2) := by decide +kernel
theorem dX5_take_40 : decode cX5_take 40 = .ok (.iastore, 1) := by decide +kernel
theorem dX5_take_41 : decode cX5_take 41 = .ok (.aload_n 0, 1) := by decide +kernel
theorem dX5_take_42 : decode cX5_take 42 = .ok (.getfield 24, 3) := by decide +kernel
theorem dX5_take_45 : decode cX5_take 45 = .ok (.aload_n 0, 1) := by decide +kernel
theorem dX5_take_46 : decode cX5_take 46 = .ok (.getfield 33, 3) := by decide +kernel
theorem dX5_take_49 : decode cX5_take 49 = .ok (.iload 5, 2) := by decide +kernel
theorem dX5_take_51 : decode cX5_take 51 = .ok (.iastore, 1) := by decide +kernel
theorem dX5_take_52 : decode cX5_take 52 = .ok (.aload_n 0, 1) := by decide +kernel
theorem dX5_take_53 : decode cX5_take 53 = .ok (.getfield 27, 3) := by decide +kernel
theorem dX5_take_56 : decode cX5_take 56 = .ok (.aload_n 0, 1) := by decide +kernel
theorem dX5_take_57 : decode cX5_take 57 = .ok (.getfield 33, 3) := by decide +kernel
theorem dX5_take_60 : decode cX5_take 60 = .ok (.bipush (-9), 2) := by decide +kernel
theorem dX5_take_62 : decode cX5_take 62 = .ok (.iastore, 1) := by decide +kernel
theorem dX5_take_63 : decode cX5_take 63 = .ok (.aload_n 0, 1) := by decide +kernel
theorem dX5_take_64 : decode cX5_take 64 = .ok (.dup, 1) := by decide +kernel
theorem dX5_take_65 : decode cX5_take 65 = .ok (.getfield 33, 3) := by decide +kernel
theorem dX5_take_68 : decode cX5_take 68 = .ok (.iconst 1, 1) := by decide +kernel
theorem dX5_take_69 : decode cX5_take 69 = .ok (.iadd, 1) := by decide +kernel
theorem dX5_take_70 : decode cX5_take 70 = .ok (.putfield 33, 3) := by decide +kernel
theorem dX5_take_73 : decode cX5_take 73 = .ok (.aload_n 0, 1) := by decide +kernel
theorem dX5_take_74 : decode cX5_take 74 = .ok (.getfield 33, 3) := by decide +kernel
theorem dX5_take_77 : decode cX5_take 77 = .ok (.iconst 1, 1) := by decide +kernel
theorem dX5_take_78 : decode cX5_take 78 = .ok (.isub, 1) := by decide +kernel
theorem dX5_take_79 : decode cX5_take 79 = .ok (.ireturn, 1) := by decide +kernel
theorem dX5_isOpen_0 : decode cX5_isOpen 0 = .ok (.aload_n 0, 1) := by decide +kernel
theorem dX5_isOpen_1 : decode cX5_isOpen 1 = .ok (.getfield 27, 3) := by decide +kernel
theorem dX5_isOpen_4 : decode cX5_isOpen 4 = .ok (.iload_n 1, 1) := by decide +kernel
theorem dX5_isOpen_5 : decode cX5_isOpen 5 = .ok (.iaload, 1) := by decide +kernel
theorem dX5_isOpen_6 : decode cX5_isOpen 6 = .ok (.bipush (-9), 2) := by decide +kernel
theorem dX5_isOpen_8 : decode cX5_isOpen 8 = .ok (.if_icmp .ne 7, 3) := by decide +kernel
theorem dX5_isOpen_11 : decode cX5_isOpen 11 = .ok (.iconst 1, 1) := by decide +kernel
theorem dX5_isOpen_12 : decode cX5_isOpen 12 = .ok (.goto 4, 3) := by decide +kernel
theorem dX5_isOpen_15 : decode cX5_isOpen 15 = .ok (.iconst 0, 1) := by decide +kernel
theorem dX5_isOpen_16 : decode cX5_isOpen 16 = .ok (.ireturn, 1) := by decide +kernel
theorem dX5_open_0 : decode cX5_open 0 = .ok (.iconst 0, 1) := by decide +kernel
theorem dX5_open_1 : decode cX5_open 1 = .ok (.istore_n 1, 1) := by decide +kernel
theorem dX5_open_2 : decode cX5_open 2 = .ok (.iconst 0, 1) := by decide +kernel
theorem dX5_open_3 : decode cX5_open 3 = .ok (.istore_n 2, 1) := by decide +kernel
theorem dX5_open_4 : decode cX5_open 4 = .ok (.iload_n 2, 1) := by decide +kernel
theorem dX5_open_5 : decode cX5_open 5 = .ok (.aload_n 0, 1) := by decide +kernel
theorem dX5_open_6 : decode cX5_open 6 = .ok (.getfield 33, 3) := by decide +kernel
theorem dX5_open_9 : decode cX5_open 9 = .ok (.if_icmp .ge 20, 3) := by decide +kernel
theorem dX5_open_12 : decode cX5_open 12 = .ok (.aload_n 0, 1) := by decide +kernel
theorem dX5_open_13 : decode cX5_open 13 = .ok (.iload_n 2, 1) := by decide +kernel
theorem dX5_open_14 : decode cX5_open 14 = .ok (.invokevirtual 37, 3) := by decide +kernel
theorem dX5_open_17 : decode cX5_open 17 = .ok (.ifCond .eq 6, 3) := by decide +kernel
theorem dX5_open_20 : decode cX5_open 20 = .ok (.iinc 1 1, 3) := by decide +kernel
theorem dX5_open_23 : decode cX5_open 23 = .ok (.iinc 2 1, 3) := by decide +kernel
theorem dX5_open_26 : decode cX5_open 26 = .ok (.goto (-22), 3) := by decide +kernel
theorem dX5_open_29 : decode cX5_open 29 = .ok (.iload_n 1, 1) := by decide +kernel
theorem dX5_open_30 : decode cX5_open 30 = .ok (.ireturn, 1) := by decide +kernel
theorem dX5_coinsFor_0 : decode cX5_coinsFor 0 = .ok (.iload_n 2, 1) := by decide +kernel
theorem dX5_coinsFor_1 : decode cX5_coinsFor 1 = .ok (.aload_n 0, 1) := by decide +kernel
theorem dX5_coinsFor_2 : decode cX5_coinsFor 2 = .ok (.getfield 21, 3) := by decide +kernel
theorem dX5_coinsFor_5 : decode cX5_coinsFor 5 = .ok (.iload_n 1, 1) := by decide +kernel
theorem dX5_coinsFor_6 : decode cX5_coinsFor 6 = .ok (.iaload, 1) := by decide +kernel
theorem dX5_coinsFor_7 : decode cX5_coinsFor 7 = .ok (.if_icmp .le 14, 3) := by decide +kernel
theorem dX5_coinsFor_10 : decode cX5_coinsFor 10 = .ok (.aload_n 0, 1) := by decide +kernel
theorem dX5_coinsFor_11 : decode cX5_coinsFor 11 = .ok (.getfield 24, 3) := by decide +kernel
theorem dX5_coinsFor_14 : decode cX5_coinsFor 14 = .ok (.iload_n 1, 1) := by decide +kernel
theorem dX5_coinsFor_15 : decode cX5_coinsFor 15 = .ok (.iaload, 1) := by decide +kernel
theorem dX5_coinsFor_16 : decode cX5_coinsFor 16 = .ok (.iconst 2, 1) := by decide +kernel
theorem dX5_coinsFor_17 : decode cX5_coinsFor 17 = .ok (.idiv, 1) := by decide +kernel
theorem dX5_coinsFor_18 : decode cX5_coinsFor 18 = .ok (.goto 9, 3) := by decide +kernel
theorem dX5_coinsFor_21 : decode cX5_coinsFor 21 = .ok (.aload_n 0, 1) := by decide +kernel
theorem dX5_coinsFor_22 : decode cX5_coinsFor 22 = .ok (.getfield 24, 3) := by decide +kernel
theorem dX5_coinsFor_25 : decode cX5_coinsFor 25 = .ok (.iload_n 1, 1) := by decide +kernel
theorem dX5_coinsFor_26 : decode cX5_coinsFor 26 = .ok (.iaload, 1) := by decide +kernel
theorem dX5_coinsFor_27 : decode cX5_coinsFor 27 = .ok (.istore 4, 2) := by decide +kernel
theorem dX5_coinsFor_29 : decode cX5_coinsFor 29 = .ok (.aload_n 0, 1) := by decide +kernel
theorem dX5_coinsFor_30 : decode cX5_coinsFor 30 = .ok (.getfield 18, 3) := by decide +kernel
theorem dX5_coinsFor_33 : decode cX5_coinsFor 33 = .ok (.iload_n 1, 1) := by decide +kernel
theorem dX5_coinsFor_34 : decode cX5_coinsFor 34 = .ok (.iaload, 1) := by decide +kernel
theorem dX5_coinsFor_35 : decode cX5_coinsFor 35 = .ok (.iload 4, 2) := by decide +kernel
theorem dX5_coinsFor_37 : decode cX5_coinsFor 37 = .ok (.iload_n 3, 1) := by decide +kernel
theorem dX5_coinsFor_38 : decode cX5_coinsFor 38 = .ok (.isub, 1) := by decide +kernel
theorem dX5_coinsFor_39 : decode cX5_coinsFor 39 = .ok (.imul, 1) := by decide +kernel
theorem dX5_coinsFor_40 : decode cX5_coinsFor 40 = .ok (.ireturn, 1) := by decide +kernel
theorem dX5_plan_0 : decode cX5_plan 0 = .ok (.aload_n 0, 1) := by decide +kernel
theorem dX5_plan_1 : decode cX5_plan 1 = .ok (.invokevirtual 41, 3) := by decide +kernel
theorem dX5_plan_4 : decode cX5_plan 4 = .ok (.istore_n 3, 1) := by decide +kernel
theorem dX5_plan_5 : decode cX5_plan 5 = .ok (.aload_n 0, 1) := by decide +kernel
theorem dX5_plan_6 : decode cX5_plan 6 = .ok (.iconst 0, 1) := by decide +kernel
theorem dX5_plan_7 : decode cX5_plan 7 = .ok (.putfield 45, 3) := by decide +kernel
theorem dX5_plan_10 : decode cX5_plan 10 = .ok (.aload_n 0, 1) := by decide +kernel
theorem dX5_plan_11 : decode cX5_plan 11 = .ok (.iconst 0, 1) := by decide +kernel
theorem dX5_plan_12 : decode cX5_plan 12 = .ok (.putfield 48, 3) := by decide +kernel
theorem dX5_plan_15 : decode cX5_plan 15 = .ok (.iconst 1, 1) := by decide +kernel
theorem dX5_plan_16 : decode cX5_plan 16 = .ok (.istore 4, 2) := by decide +kernel
theorem dX5_plan_18 : decode cX5_plan 18 = .ok (.iload 4, 2) := by decide +kernel
theorem dX5_plan_20 : decode cX5_plan 20 = .ok (.iconst 1, 1) := by decide +kernel
theorem dX5_plan_21 : decode cX5_plan 21 = .ok (.iload_n 3, 1) := by decide +kernel
theorem dX5_plan_22 : decode cX5_plan 22 = .ok (.ishl, 1) := by decide +kernel
theorem dX5_plan_23 : decode cX5_plan 23 = .ok (.if_icmp .ge 18, 3) := by decide +kernel
theorem dX5_plan_26 : decode cX5_plan 26 = .ok (.aload_n 0, 1) := by decide +kernel
theorem dX5_plan_27 : decode cX5_plan 27 = .ok (.iload 4, 2) := by decide +kernel
theorem dX5_plan_29 : decode cX5_plan 29 = .ok (.iload_n 3, 1) := by decide +kernel
theorem dX5_plan_30 : decode cX5_plan 30 = .ok (.iload_n 1, 1) := by decide +kernel
theorem dX5_plan_31 : decode cX5_plan 31 = .ok (.iload_n 2, 1) := by decide +kernel
theorem dX5_plan_32 : decode cX5_plan 32 = .ok (.invokevirtual 51, 3) := by decide +kernel
theorem dX5_plan_35 : decode cX5_plan 35 = .ok (.iinc 4 1, 3) := by decide +kernel
theorem dX5_plan_38 : decode cX5_plan 38 = .ok (.goto (-20), 3) := by decide +kernel
theorem dX5_plan_41 : decode cX5_plan 41 = .ok (.return_, 1) := by decide +kernel
theorem dX5_sortByDue_0 : decode cX5_sortByDue 0 = .ok (.iconst 0, 1) := by decide +kernel
theorem dX5_sortByDue_1 : decode cX5_sortByDue 1 = .ok (.istore_n 1, 1) := by decide +kernel
theorem dX5_sortByDue_2 : decode cX5_sortByDue 2 = .ok (.iconst 0, 1) := by decide +kernel
theorem dX5_sortByDue_3 : decode cX5_sortByDue 3 = .ok (.istore_n 2, 1) := by decide +kernel
theorem dX5_sortByDue_4 : decode cX5_sortByDue 4 = .ok (.iload_n 2, 1) := by decide +kernel
theorem dX5_sortByDue_5 : decode cX5_sortByDue 5 = .ok (.aload_n 0, 1) := by decide +kernel
theorem dX5_sortByDue_6 : decode cX5_sortByDue 6 = .ok (.getfield 33, 3) := by decide +kernel
theorem dX5_sortByDue_9 : decode cX5_sortByDue 9 = .ok (.if_icmp .ge 78, 3) := by decide +kernel
theorem dX5_sortByDue_12 : decode cX5_sortByDue 12 = .ok (.aload_n 0, 1) := by decide +kernel
theorem dX5_sortByDue_13 : decode cX5_sortByDue 13 = .ok (.iload_n 2, 1) := by decide +kernel
theorem dX5_sortByDue_14 : decode cX5_sortByDue 14 = .ok (.invokevirtual 37, 3) := by decide +kernel
theorem dX5_sortByDue_17 : decode cX5_sortByDue 17 = .ok (.ifCond .ne 6, 3) := by decide +kernel
theorem dX5_sortByDue_20 : decode cX5_sortByDue 20 = .ok (.goto 61, 3) := by decide +kernel
theorem dX5_sortByDue_23 : decode cX5_sortByDue 23 = .ok (.iload_n 1, 1) := by decide +kernel
theorem dX5_sortByDue_24 : decode cX5_sortByDue 24 = .ok (.istore_n 3, 1) := by decide +kernel
theorem dX5_sortByDue_25 : decode cX5_sortByDue 25 = .ok (.iload_n 3, 1) := by decide +kernel
theorem dX5_sortByDue_26 : decode cX5_sortByDue 26 = .ok (.ifCond .le 45, 3) := by decide +kernel
theorem dX5_sortByDue_29 : decode cX5_sortByDue 29 = .ok (.aload_n 0, 1) := by decide +kernel
theorem dX5_sortByDue_30 : decode cX5_sortByDue 30 = .ok (.getfield 21, 3) := by decide +kernel
theorem dX5_sortByDue_33 : decode cX5_sortByDue 33 = .ok (.aload_n 0, 1) := by decide +kernel
theorem dX5_sortByDue_34 : decode cX5_sortByDue 34 = .ok (.getfield 30, 3) := by decide +kernel
theorem dX5_sortByDue_37 : decode cX5_sortByDue 37 = .ok (.iload_n 3, 1) := by decide +kernel
theorem dX5_sortByDue_38 : decode cX5_sortByDue 38 = .ok (.iconst 1, 1) := by decide +kernel
theorem dX5_sortByDue_39 : decode cX5_sortByDue 39 = .ok (.isub, 1) := by decide +kernel
theorem dX5_sortByDue_40 : decode cX5_sortByDue 40 = .ok (.iaload, 1) := by decide +kernel
theorem dX5_sortByDue_41 : decode cX5_sortByDue 41 = .ok (.iaload, 1) := by decide +kernel
theorem dX5_sortByDue_42 : decode cX5_sortByDue 42 = .ok (.aload_n 0, 1) := by decide +kernel
theorem dX5_sortByDue_43 : decode cX5_sortByDue 43 = .ok (.getfield 21, 3) := by decide +kernel
theorem dX5_sortByDue_46 : decode cX5_sortByDue 46 = .ok (.iload_n 2, 1) := by decide +kernel
theorem dX5_sortByDue_47 : decode cX5_sortByDue 47 = .ok (.iaload, 1) := by decide +kernel
theorem dX5_sortByDue_48 : decode cX5_sortByDue 48 = .ok (.if_icmp .le 23, 3) := by decide +kernel
theorem dX5_sortByDue_51 : decode cX5_sortByDue 51 = .ok (.aload_n 0, 1) := by decide +kernel
theorem dX5_sortByDue_52 : decode cX5_sortByDue 52 = .ok (.getfield 30, 3) := by decide +kernel
theorem dX5_sortByDue_55 : decode cX5_sortByDue 55 = .ok (.iload_n 3, 1) := by decide +kernel
theorem dX5_sortByDue_56 : decode cX5_sortByDue 56 = .ok (.aload_n 0, 1) := by decide +kernel
theorem dX5_sortByDue_57 : decode cX5_sortByDue 57 = .ok (.getfield 30, 3) := by decide +kernel
theorem dX5_sortByDue_60 : decode cX5_sortByDue 60 = .ok (.iload_n 3, 1) := by decide +kernel
theorem dX5_sortByDue_61 : decode cX5_sortByDue 61 = .ok (.iconst 1, 1) := by decide +kernel
theorem dX5_sortByDue_62 : decode cX5_sortByDue 62 = .ok (.isub, 1) := by decide +kernel
theorem dX5_sortByDue_63 : decode cX5_sortByDue 63 = .ok (.iaload, 1) := by decide +kernel
theorem dX5_sortByDue_64 : decode cX5_sortByDue 64 = .ok (.iastore, 1) := by decide +kernel
theorem dX5_sortByDue_65 : decode cX5_sortByDue 65 = .ok (.iinc 3 (-1), 3) := by decide +kernel
theorem dX5_sortByDue_68 : decode cX5_sortByDue 68 = .ok (.goto (-43), 3) := by decide +kernel
theorem dX5_sortByDue_71 : decode cX5_sortByDue 71 = .ok (.aload_n 0, 1) := by decide +kernel
theorem dX5_sortByDue_72 : decode cX5_sortByDue 72 = .ok (.getfield 30, 3) := by decide +kernel
theorem dX5_sortByDue_75 : decode cX5_sortByDue 75 = .ok (.iload_n 3, 1) := by decide +kernel
theorem dX5_sortByDue_76 : decode cX5_sortByDue 76 = .ok (.iload_n 2, 1) := by decide +kernel
theorem dX5_sortByDue_77 : decode cX5_sortByDue 77 = .ok (.iastore, 1) := by decide +kernel
theorem dX5_sortByDue_78 : decode cX5_sortByDue 78 = .ok (.iinc 1 1, 3) := by decide +kernel
theorem dX5_sortByDue_81 : decode cX5_sortByDue 81 = .ok (.iinc 2 1, 3) := by decide +kernel
theorem dX5_sortByDue_84 : decode cX5_sortByDue 84 = .ok (.goto (-80), 3) := by decide +kernel
theorem dX5_sortByDue_87 : decode cX5_sortByDue 87 = .ok (.iload_n 1, 1) := by decide +kernel
theorem dX5_sortByDue_88 : decode cX5_sortByDue 88 = .ok (.ireturn, 1) := by decide +kernel
theorem dX5_weigh_0 : decode cX5_weigh 0 = .ok (.iconst 0, 1) := by decide +kernel
theorem dX5_weigh_1 : decode cX5_weigh 1 = .ok (.istore 5, 2) := by decide +kernel
theorem dX5_weigh_3 : decode cX5_weigh 3 = .ok (.iconst 0, 1) := by decide +kernel
theorem dX5_weigh_4 : decode cX5_weigh 4 = .ok (.istore 6, 2) := by decide +kernel
theorem dX5_weigh_6 : decode cX5_weigh 6 = .ok (.iconst 0, 1) := by decide +kernel
theorem dX5_weigh_7 : decode cX5_weigh 7 = .ok (.istore 7, 2) := by decide +kernel
theorem dX5_weigh_9 : decode cX5_weigh 9 = .ok (.iconst 0, 1) := by decide +kernel
theorem dX5_weigh_10 : decode cX5_weigh 10 = .ok (.istore 8, 2) := by decide +kernel
theorem dX5_weigh_12 : decode cX5_weigh 12 = .ok (.iload 8, 2) := by decide +kernel
theorem dX5_weigh_14 : decode cX5_weigh 14 = .ok (.iload_n 2, 1) := by decide +kernel
theorem dX5_weigh_15 : decode cX5_weigh 15 = .ok (.if_icmp .ge 95, 3) := by decide +kernel
end
section
theorem dX5_weigh_18 : decode cX5_weigh 18 = .ok (.iload_n 1, 1) := by decide +kernel
theorem dX5_weigh_19 : decode cX5_weigh 19 = .ok (.iload 8, 2) := by decide +kernel
theorem dX5_weigh_21 : decode cX5_weigh 21 = .ok (.ishr, 1) := by decide +kernel
theorem dX5_weigh_22 : decode cX5_weigh 22 = .ok (.iconst 1, 1) := by decide +kernel
theorem dX5_weigh_23 : decode cX5_weigh 23 = .ok (.iand, 1) := by decide +kernel
theorem dX5_weigh_24 : decode cX5_weigh 24 = .ok (.ifCond .ne 6, 3) := by decide +kernel
theorem dX5_weigh_27 : decode cX5_weigh 27 = .ok (.goto 77, 3) := by decide +kernel
theorem dX5_weigh_30 : decode cX5_weigh 30 = .ok (.aload_n 0, 1) := by decide +kernel
theorem dX5_weigh_31 : decode cX5_weigh 31 = .ok (.getfield 30, 3) := by decide +kernel
theorem dX5_weigh_34 : decode cX5_weigh 34 = .ok (.iload 8, 2) := by decide +kernel
theorem dX5_weigh_36 : decode cX5_weigh 36 = .ok (.iaload, 1) := by decide +kernel
theorem dX5_weigh_37 : decode cX5_weigh 37 = .ok (.istore 9, 2) := by decide +kernel
theorem dX5_weigh_39 : decode cX5_weigh 39 = .ok (.iload 5, 2) := by decide +kernel
theorem dX5_weigh_41 : decode cX5_weigh 41 = .ok (.aload_n 0, 1) := by decide +kernel
theorem dX5_weigh_42 : decode cX5_weigh 42 = .ok (.getfield 18, 3) := by decide +kernel
theorem dX5_weigh_45 : decode cX5_weigh 45 = .ok (.iload 9, 2) := by decide +kernel
theorem dX5_weigh_47 : decode cX5_weigh 47 = .ok (.iaload, 1) := by decide +kernel
theorem dX5_weigh_48 : decode cX5_weigh 48 = .ok (.iadd, 1) := by decide +kernel
theorem dX5_weigh_49 : decode cX5_weigh 49 = .ok (.istore 5, 2) := by decide +kernel
theorem dX5_weigh_51 : decode cX5_weigh 51 = .ok (.iload 5, 2) := by decide +kernel
theorem dX5_weigh_53 : decode cX5_weigh 53 = .ok (.sipush 480, 3) := by decide +kernel
theorem dX5_weigh_56 : decode cX5_weigh 56 = .ok (.imul, 1) := by decide +kernel
theorem dX5_weigh_57 : decode cX5_weigh 57 = .ok (.aload_n 0, 1) := by decide +kernel
theorem dX5_weigh_58 : decode cX5_weigh 58 = .ok (.getfield 21, 3) := by decide +kernel
theorem dX5_weigh_61 : decode cX5_weigh 61 = .ok (.iload 9, 2) := by decide +kernel
theorem dX5_weigh_63 : decode cX5_weigh 63 = .ok (.iaload, 1) := by decide +kernel
theorem dX5_weigh_64 : decode cX5_weigh 64 = .ok (.iconst 1, 1) := by decide +kernel
theorem dX5_weigh_65 : decode cX5_weigh 65 = .ok (.iadd, 1) := by decide +kernel
theorem dX5_weigh_66 : decode cX5_weigh 66 = .ok (.iload 4, 2) := by decide +kernel
theorem dX5_weigh_68 : decode cX5_weigh 68 = .ok (.isub, 1) := by decide +kernel
theorem dX5_weigh_69 : decode cX5_weigh 69 = .ok (.iload_n 3, 1) := by decide +kernel
theorem dX5_weigh_70 : decode cX5_weigh 70 = .ok (.imul, 1) := by decide +kernel
theorem dX5_weigh_71 : decode cX5_weigh 71 = .ok (.if_icmp .le 4, 3) := by decide +kernel
theorem dX5_weigh_74 : decode cX5_weigh 74 = .ok (.return_, 1) := by decide +kernel
theorem dX5_weigh_75 : decode cX5_weigh 75 = .ok (.iload 6, 2) := by decide +kernel
theorem dX5_weigh_77 : decode cX5_weigh 77 = .ok (.aload_n 0, 1) := by decide +kernel
theorem dX5_weigh_78 : decode cX5_weigh 78 = .ok (.getfield 24, 3) := by decide +kernel
theorem dX5_weigh_81 : decode cX5_weigh 81 = .ok (.iload 9, 2) := by decide +kernel
theorem dX5_weigh_83 : decode cX5_weigh 83 = .ok (.iaload, 1) := by decide +kernel
theorem dX5_weigh_84 : decode cX5_weigh 84 = .ok (.aload_n 0, 1) := by decide +kernel
theorem dX5_weigh_85 : decode cX5_weigh 85 = .ok (.getfield 18, 3) := by decide +kernel
theorem dX5_weigh_88 : decode cX5_weigh 88 = .ok (.iload 9, 2) := by decide +kernel
theorem dX5_weigh_90 : decode cX5_weigh 90 = .ok (.iaload, 1) := by decide +kernel
theorem dX5_weigh_91 : decode cX5_weigh 91 = .ok (.imul, 1) := by decide +kernel
theorem dX5_weigh_92 : decode cX5_weigh 92 = .ok (.iadd, 1) := by decide +kernel
theorem dX5_weigh_93 : decode cX5_weigh 93 = .ok (.istore 6, 2) := by decide +kernel
theorem dX5_weigh_95 : decode cX5_weigh 95 = .ok (.iload 7, 2) := by decide +kernel
theorem dX5_weigh_97 : decode cX5_weigh 97 = .ok (.iconst 1, 1) := by decide +kernel
theorem dX5_weigh_98 : decode cX5_weigh 98 = .ok (.iload 9, 2) := by decide +kernel
theorem dX5_weigh_100 : decode cX5_weigh 100 = .ok (.ishl, 1) := by decide +kernel
theorem dX5_weigh_101 : decode cX5_weigh 101 = .ok (.ior, 1) := by decide +kernel
theorem dX5_weigh_102 : decode cX5_weigh 102 = .ok (.istore 7, 2) := by decide +kernel
theorem dX5_weigh_104 : decode cX5_weigh 104 = .ok (.iinc 8 1, 3) := by decide +kernel
theorem dX5_weigh_107 : decode cX5_weigh 107 = .ok (.goto (-95), 3) := by decide +kernel
theorem dX5_weigh_110 : decode cX5_weigh 110 = .ok (.aload_n 0, 1) := by decide +kernel
theorem dX5_weigh_111 : decode cX5_weigh 111 = .ok (.iload 6, 2) := by decide +kernel
theorem dX5_weigh_113 : decode cX5_weigh 113 = .ok (.iload 7, 2) := by decide +kernel
theorem dX5_weigh_115 : decode cX5_weigh 115 = .ok (.invokevirtual 55, 3) := by decide +kernel
theorem dX5_weigh_118 : decode cX5_weigh 118 = .ok (.ifCond .eq 15, 3) := by decide +kernel
theorem dX5_weigh_121 : decode cX5_weigh 121 = .ok (.aload_n 0, 1) := by decide +kernel
theorem dX5_weigh_122 : decode cX5_weigh 122 = .ok (.iload 6, 2) := by decide +kernel
theorem dX5_weigh_124 : decode cX5_weigh 124 = .ok (.putfield 48, 3) := by decide +kernel
theorem dX5_weigh_127 : decode cX5_weigh 127 = .ok (.aload_n 0, 1) := by decide +kernel
theorem dX5_weigh_128 : decode cX5_weigh 128 = .ok (.iload 7, 2) := by decide +kernel
theorem dX5_weigh_130 : decode cX5_weigh 130 = .ok (.putfield 45, 3) := by decide +kernel
theorem dX5_weigh_133 : decode cX5_weigh 133 = .ok (.return_, 1) := by decide +kernel
theorem dX5_isBetter_0 : decode cX5_isBetter 0 = .ok (.iload_n 1, 1) := by decide +kernel
theorem dX5_isBetter_1 : decode cX5_isBetter 1 = .ok (.aload_n 0, 1) := by decide +kernel
theorem dX5_isBetter_2 : decode cX5_isBetter 2 = .ok (.getfield 48, 3) := by decide +kernel
theorem dX5_isBetter_5 : decode cX5_isBetter 5 = .ok (.if_icmp .eq 17, 3) := by decide +kernel
theorem dX5_isBetter_8 : decode cX5_isBetter 8 = .ok (.iload_n 1, 1) := by decide +kernel
theorem dX5_isBetter_9 : decode cX5_isBetter 9 = .ok (.aload_n 0, 1) := by decide +kernel
theorem dX5_isBetter_10 : decode cX5_isBetter 10 = .ok (.getfield 48, 3) := by decide +kernel
theorem dX5_isBetter_13 : decode cX5_isBetter 13 = .ok (.if_icmp .le 7, 3) := by decide +kernel
theorem dX5_isBetter_16 : decode cX5_isBetter 16 = .ok (.iconst 1, 1) := by decide +kernel
theorem dX5_isBetter_17 : decode cX5_isBetter 17 = .ok (.goto 4, 3) := by decide +kernel
theorem dX5_isBetter_20 : decode cX5_isBetter 20 = .ok (.iconst 0, 1) := by decide +kernel
theorem dX5_isBetter_21 : decode cX5_isBetter 21 = .ok (.ireturn, 1) := by decide +kernel
theorem dX5_isBetter_22 : decode cX5_isBetter 22 = .ok (.iload_n 2, 1) := by decide +kernel
theorem dX5_isBetter_23 : decode cX5_isBetter 23 = .ok (.invokestatic 59, 3) := by decide +kernel
theorem dX5_isBetter_26 : decode cX5_isBetter 26 = .ok (.aload_n 0, 1) := by decide +kernel
theorem dX5_isBetter_27 : decode cX5_isBetter 27 = .ok (.getfield 45, 3) := by decide +kernel
theorem dX5_isBetter_30 : decode cX5_isBetter 30 = .ok (.invokestatic 59, 3) := by decide +kernel
theorem dX5_isBetter_33 : decode cX5_isBetter 33 = .ok (.invokestatic 65, 3) := by decide +kernel
theorem dX5_isBetter_36 : decode cX5_isBetter 36 = .ok (.istore_n 3, 1) := by decide +kernel
theorem dX5_isBetter_37 : decode cX5_isBetter 37 = .ok (.iload_n 3, 1) := by decide +kernel
theorem dX5_isBetter_38 : decode cX5_isBetter 38 = .ok (.ifCond .eq 15, 3) := by decide +kernel
theorem dX5_isBetter_41 : decode cX5_isBetter 41 = .ok (.iload_n 3, 1) := by decide +kernel
theorem dX5_isBetter_42 : decode cX5_isBetter 42 = .ok (.ifCond .ge 7, 3) := by decide +kernel
theorem dX5_isBetter_45 : decode cX5_isBetter 45 = .ok (.iconst 1, 1) := by decide +kernel
theorem dX5_isBetter_46 : decode cX5_isBetter 46 = .ok (.goto 20, 3) := by decide +kernel
theorem dX5_isBetter_49 : decode cX5_isBetter 49 = .ok (.iconst 0, 1) := by decide +kernel
theorem dX5_isBetter_50 : decode cX5_isBetter 50 = .ok (.goto 16, 3) := by decide +kernel
theorem dX5_isBetter_53 : decode cX5_isBetter 53 = .ok (.iload_n 2, 1) := by decide +kernel
theorem dX5_isBetter_54 : decode cX5_isBetter 54 = .ok (.aload_n 0, 1) := by decide +kernel
theorem dX5_isBetter_55 : decode cX5_isBetter 55 = .ok (.getfield 45, 3) := by decide +kernel
theorem dX5_isBetter_58 : decode cX5_isBetter 58 = .ok (.if_icmp .ge 7, 3) := by decide +kernel
theorem dX5_isBetter_61 : decode cX5_isBetter 61 = .ok (.iconst 1, 1) := by decide +kernel
theorem dX5_isBetter_62 : decode cX5_isBetter 62 = .ok (.goto 4, 3) := by decide +kernel
theorem dX5_isBetter_65 : decode cX5_isBetter 65 = .ok (.iconst 0, 1) := by decide +kernel
theorem dX5_isBetter_66 : decode cX5_isBetter 66 = .ok (.ireturn, 1) := by decide +kernel
theorem dX6_init_0 : decode cX6_init 0 = .ok (.aload_n 0, 1) := by decide +kernel
theorem dX6_init_1 : decode cX6_init 1 = .ok (.invokespecial 3, 3) := by decide +kernel
theorem dX6_init_4 : decode cX6_init 4 = .ok (.aload_n 0, 1) := by decide +kernel
theorem dX6_init_5 : decode cX6_init 5 = .ok (.new 9, 3) := by decide +kernel
theorem dX6_init_8 : decode cX6_init 8 = .ok (.dup, 1) := by decide +kernel
theorem dX6_init_9 : decode cX6_init 9 = .ok (.invokespecial 11, 3) := by decide +kernel
theorem dX6_init_12 : decode cX6_init 12 = .ok (.putfield 12, 3) := by decide +kernel
theorem dX6_init_15 : decode cX6_init 15 = .ok (.aload_n 0, 1) := by decide +kernel
theorem dX6_init_16 : decode cX6_init 16 = .ok (.bipush 80, 2) := by decide +kernel
theorem dX6_init_18 : decode cX6_init 18 = .ok (.newarray .int, 2) := by decide +kernel
theorem dX6_init_20 : decode cX6_init 20 = .ok (.putfield 18, 3) := by decide +kernel
theorem dX6_init_23 : decode cX6_init 23 = .ok (.aload_n 0, 1) := by decide +kernel
theorem dX6_init_24 : decode cX6_init 24 = .ok (.bipush 80, 2) := by decide +kernel
theorem dX6_init_26 : decode cX6_init 26 = .ok (.newarray .int, 2) := by decide +kernel
theorem dX6_init_28 : decode cX6_init 28 = .ok (.putfield 22, 3) := by decide +kernel
theorem dX6_init_31 : decode cX6_init 31 = .ok (.aload_n 0, 1) := by decide +kernel
theorem dX6_init_32 : decode cX6_init 32 = .ok (.bipush 80, 2) := by decide +kernel
theorem dX6_init_34 : decode cX6_init 34 = .ok (.newarray .int, 2) := by decide +kernel
theorem dX6_init_36 : decode cX6_init 36 = .ok (.putfield 25, 3) := by decide +kernel
theorem dX6_init_39 : decode cX6_init 39 = .ok (.aload_n 0, 1) := by decide +kernel
theorem dX6_init_40 : decode cX6_init 40 = .ok (.bipush 80, 2) := by decide +kernel
theorem dX6_init_42 : decode cX6_init 42 = .ok (.newarray .int, 2) := by decide +kernel
theorem dX6_init_44 : decode cX6_init 44 = .ok (.putfield 28, 3) := by decide +kernel
theorem dX6_init_47 : decode cX6_init 47 = .ok (.aload_n 0, 1) := by decide +kernel
theorem dX6_init_48 : decode cX6_init 48 = .ok (.bipush 80, 2) := by decide +kernel
theorem dX6_init_50 : decode cX6_init 50 = .ok (.newarray .int, 2) := by decide +kernel
theorem dX6_init_52 : decode cX6_init 52 = .ok (.putfield 31, 3) := by decide +kernel
theorem dX6_init_55 : decode cX6_init 55 = .ok (.aload_n 0, 1) := by decide +kernel
theorem dX6_init_56 : decode cX6_init 56 = .ok (.bipush 80, 2) := by decide +kernel
theorem dX6_init_58 : decode cX6_init 58 = .ok (.newarray .int, 2) := by decide +kernel
theorem dX6_init_60 : decode cX6_init 60 = .ok (.putfield 34, 3) := by decide +kernel
theorem dX6_init_63 : decode cX6_init 63 = .ok (.aload_n 0, 1) := by decide +kernel
theorem dX6_init_64 : decode cX6_init 64 = .ok (.bipush 80, 2) := by decide +kernel
theorem dX6_init_66 : decode cX6_init 66 = .ok (.newarray .int, 2) := by decide +kernel
theorem dX6_init_68 : decode cX6_init 68 = .ok (.putfield 37, 3) := by decide +kernel
theorem dX6_init_71 : decode cX6_init 71 = .ok (.aload_n 0, 1) := by decide +kernel
theorem dX6_init_72 : decode cX6_init 72 = .ok (.bipush 10, 2) := by decide +kernel
theorem dX6_init_74 : decode cX6_init 74 = .ok (.putfield 40, 3) := by decide +kernel
theorem dX6_init_77 : decode cX6_init 77 = .ok (.return_, 1) := by decide +kernel
theorem dX6_copyFrom_0 : decode cX6_copyFrom 0 = .ok (.aload_n 1, 1) := by decide +kernel
theorem dX6_copyFrom_1 : decode cX6_copyFrom 1 = .ok (.getfield 18, 3) := by decide +kernel
theorem dX6_copyFrom_4 : decode cX6_copyFrom 4 = .ok (.aload_n 0, 1) := by decide +kernel
theorem dX6_copyFrom_5 : decode cX6_copyFrom 5 = .ok (.getfield 18, 3) := by decide +kernel
theorem dX6_copyFrom_8 : decode cX6_copyFrom 8 = .ok (.invokestatic 44, 3) := by decide +kernel
theorem dX6_copyFrom_11 : decode cX6_copyFrom 11 = .ok (.aload_n 1, 1) := by decide +kernel
theorem dX6_copyFrom_12 : decode cX6_copyFrom 12 = .ok (.getfield 22, 3) := by decide +kernel
theorem dX6_copyFrom_15 : decode cX6_copyFrom 15 = .ok (.aload_n 0, 1) := by decide +kernel
theorem dX6_copyFrom_16 : decode cX6_copyFrom 16 = .ok (.getfield 22, 3) := by decide +kernel
theorem dX6_copyFrom_19 : decode cX6_copyFrom 19 = .ok (.invokestatic 44, 3) := by decide +kernel
theorem dX6_copyFrom_22 : decode cX6_copyFrom 22 = .ok (.aload_n 1, 1) := by decide +kernel
theorem dX6_copyFrom_23 : decode cX6_copyFrom 23 = .ok (.getfield 25, 3) := by decide +kernel
theorem dX6_copyFrom_26 : decode cX6_copyFrom 26 = .ok (.aload_n 0, 1) := by decide +kernel
theorem dX6_copyFrom_27 : decode cX6_copyFrom 27 = .ok (.getfield 25, 3) := by decide +kernel
theorem dX6_copyFrom_30 : decode cX6_copyFrom 30 = .ok (.invokestatic 44, 3) := by decide +kernel
theorem dX6_copyFrom_33 : decode cX6_copyFrom 33 = .ok (.aload_n 1, 1) := by decide +kernel
theorem dX6_copyFrom_34 : decode cX6_copyFrom 34 = .ok (.getfield 28, 3) := by decide +kernel
theorem dX6_copyFrom_37 : decode cX6_copyFrom 37 = .ok (.aload_n 0, 1) := by decide +kernel
theorem dX6_copyFrom_38 : decode cX6_copyFrom 38 = .ok (.getfield 28, 3) := by decide +kernel
theorem dX6_copyFrom_41 : decode cX6_copyFrom 41 = .ok (.invokestatic 44, 3) := by decide +kernel
theorem dX6_copyFrom_44 : decode cX6_copyFrom 44 = .ok (.aload_n 1, 1) := by decide +kernel
theorem dX6_copyFrom_45 : decode cX6_copyFrom 45 = .ok (.getfield 31, 3) := by decide +kernel
theorem dX6_copyFrom_48 : decode cX6_copyFrom 48 = .ok (.aload_n 0, 1) := by decide +kernel
theorem dX6_copyFrom_49 : decode cX6_copyFrom 49 = .ok (.getfield 31, 3) := by decide +kernel
theorem dX6_copyFrom_52 : decode cX6_copyFrom 52 = .ok (.invokestatic 44, 3) := by decide +kernel
theorem dX6_copyFrom_55 : decode cX6_copyFrom 55 = .ok (.aload_n 1, 1) := by decide +kernel
theorem dX6_copyFrom_56 : decode cX6_copyFrom 56 = .ok (.getfield 34, 3) := by decide +kernel
theorem dX6_copyFrom_59 : decode cX6_copyFrom 59 = .ok (.aload_n 0, 1) := by decide +kernel
theorem dX6_copyFrom_60 : decode cX6_copyFrom 60 = .ok (.getfield 34, 3) := by decide +kernel
theorem dX6_copyFrom_63 : decode cX6_copyFrom 63 = .ok (.invokestatic 44, 3) := by decide +kernel
theorem dX6_copyFrom_66 : decode cX6_copyFrom 66 = .ok (.aload_n 1, 1) := by decide +kernel
theorem dX6_copyFrom_67 : decode cX6_copyFrom 67 = .ok (.getfield 37, 3) := by decide +kernel
theorem dX6_copyFrom_70 : decode cX6_copyFrom 70 = .ok (.aload_n 0, 1) := by decide +kernel
theorem dX6_copyFrom_71 : decode cX6_copyFrom 71 = .ok (.getfield 37, 3) := by decide +kernel
theorem dX6_copyFrom_74 : decode cX6_copyFrom 74 = .ok (.invokestatic 44, 3) := by decide +kernel
theorem dX6_copyFrom_77 : decode cX6_copyFrom 77 = .ok (.aload_n 0, 1) := by decide +kernel
theorem dX6_copyFrom_78 : decode cX6_copyFrom 78 = .ok (.aload_n 1, 1) := by decide +kernel
theorem dX6_copyFrom_79 : decode cX6_copyFrom 79 = .ok (.getfield 48, 3) := by decide +kernel
theorem dX6_copyFrom_82 : decode cX6_copyFrom 82 = .ok (.putfield 48, 3) := by decide +kernel
theorem dX6_copyFrom_85 : decode cX6_copyFrom 85 = .ok (.aload_n 0, 1) := by decide +kernel
theorem dX6_copyFrom_86 : decode cX6_copyFrom 86 = .ok (.aload_n 1, 1) := by decide +kernel
theorem dX6_copyFrom_87 : decode cX6_copyFrom 87 = .ok (.getfield 51, 3) := by decide +kernel
theorem dX6_copyFrom_90 : decode cX6_copyFrom 90 = .ok (.putfield 51, 3) := by decide +kernel
theorem dX6_copyFrom_93 : decode cX6_copyFrom 93 = .ok (.aload_n 0, 1) := by decide +kernel
theorem dX6_copyFrom_94 : decode cX6_copyFrom 94 = .ok (.aload_n 1, 1) := by decide +kernel
theorem dX6_copyFrom_95 : decode cX6_copyFrom 95 = .ok (.getfield 54, 3) := by decide +kernel
theorem dX6_copyFrom_98 : decode cX6_copyFrom 98 = .ok (.putfield 54, 3) := by decide +kernel
theorem dX6_copyFrom_101 : decode cX6_copyFrom 101 = .ok (.aload_n 0, 1) := by decide +kernel
theorem dX6_copyFrom_102 : decode cX6_copyFrom 102 = .ok (.aload_n 1, 1) := by decide +kernel
theorem dX6_copyFrom_103 : decode cX6_copyFrom 103 = .ok (.getfield 40, 3) := by decide +kernel
theorem dX6_copyFrom_106 : decode cX6_copyFrom 106 = .ok (.putfield 40, 3) := by decide +kernel
theorem dX6_copyFrom_109 : decode cX6_copyFrom 109 = .ok (.return_, 1) := by decide +kernel
theorem dX6_add_0 : decode cX6_add 0 = .ok (.aload_n 0, 1) := by decide +kernel
theorem dX6_add_1 : decode cX6_add 1 = .ok (.getfield 18, 3) := by decide +kernel
theorem dX6_add_4 : decode cX6_add 4 = .ok (.aload_n 0, 1) := by decide +kernel
theorem dX6_add_5 : decode cX6_add 5 = .ok (.getfield 48, 3) := by decide +kernel
theorem dX6_add_8 : decode cX6_add 8 = .ok (.iload_n 1, 1) := by decide +kernel
theorem dX6_add_9 : decode cX6_add 9 = .ok (.iastore, 1) := by decide +kernel
theorem dX6_add_10 : decode cX6_add 10 = .ok (.aload_n 0, 1) := by decide +kernel
theorem dX6_add_11 : decode cX6_add 11 = .ok (.getfield 22, 3) := by decide +kernel
theorem dX6_add_14 : decode cX6_add 14 = .ok (.aload_n 0, 1) := by decide +kernel
theorem dX6_add_15 : decode cX6_add 15 = .ok (.getfield 48, 3) := by decide +kernel
theorem dX6_add_18 : decode cX6_add 18 = .ok (.iload_n 2, 1) := by decide +kernel
theorem dX6_add_19 : decode cX6_add 19 = .ok (.iastore, 1) := by decide +kernel
theorem dX6_add_20 : decode cX6_add 20 = .ok (.aload_n 0, 1) := by decide +kernel
theorem dX6_add_21 : decode cX6_add 21 = .ok (.getfield 25, 3) := by decide +kernel
theorem dX6_add_24 : decode cX6_add 24 = .ok (.aload_n 0, 1) := by decide +kernel
theorem dX6_add_25 : decode cX6_add 25 = .ok (.getfield 48, 3) := by decide +kernel
theorem dX6_add_28 : decode cX6_add 28 = .ok (.iload_n 3, 1) := by decide +kernel
theorem dX6_add_29 : decode cX6_add 29 = .ok (.iastore, 1) := by decide +kernel
theorem dX6_add_30 : decode cX6_add 30 = .ok (.aload_n 0, 1) := by decide +kernel
theorem dX6_add_31 : decode cX6_add 31 = .ok (.getfield 28, 3) := by decide +kernel
theorem dX6_add_34 : decode cX6_add 34 = .ok (.aload_n 0, 1) := by decide +kernel
theorem dX6_add_35 : decode cX6_add 35 = .ok (.getfield 48, 3) := by decide +kernel
theorem dX6_add_38 : decode cX6_add 38 = .ok (.bipush (-9), 2) := by decide +kernel
theorem dX6_add_40 : decode cX6_add 40 = .ok (.iastore, 1) := by decide +kernel
theorem dX6_add_41 : decode cX6_add 41 = .ok (.aload_n 0, 1) := by decide +kernel
theorem dX6_add_42 : decode cX6_add 42 = .ok (.getfield 31, 3) := by decide +kernel
theorem dX6_add_45 : decode cX6_add 45 = .ok (.aload_n 0, 1) := by decide +kernel
theorem dX6_add_46 : decode cX6_add 46 = .ok (.getfield 48, 3) := by decide +kernel
theorem dX6_add_49 : decode cX6_add 49 = .ok (.iconst 0, 1) := by decide +kernel
theorem dX6_add_50 : decode cX6_add 50 = .ok (.iastore, 1) := by decide +kernel
theorem dX6_add_51 : decode cX6_add 51 = .ok (.aload_n 0, 1) := by decide +kernel
theorem dX6_add_52 : decode cX6_add 52 = .ok (.getfield 34, 3) := by decide +kernel
theorem dX6_add_55 : decode cX6_add 55 = .ok (.aload_n 0, 1) := by decide +kernel
theorem dX6_add_56 : decode cX6_add 56 = .ok (.getfield 48, 3) := by decide +kernel
theorem dX6_add_59 : decode cX6_add 59 = .ok (.bipush (-9), 2) := by decide +kernel
theorem dX6_add_61 : decode cX6_add 61 = .ok (.iastore, 1) := by decide +kernel
theorem dX6_add_62 : decode cX6_add 62 = .ok (.aload_n 0, 1) := by decide +kernel
theorem dX6_add_63 : decode cX6_add 63 = .ok (.getfield 37, 3) := by decide +kernel
theorem dX6_add_66 : decode cX6_add 66 = .ok (.aload_n 0, 1) := by decide +kernel
theorem dX6_add_67 : decode cX6_add 67 = .ok (.getfield 48, 3) := by decide +kernel
theorem dX6_add_70 : decode cX6_add 70 = .ok (.bipush (-9), 2) := by decide +kernel
theorem dX6_add_72 : decode cX6_add 72 = .ok (.iastore, 1) := by decide +kernel
theorem dX6_add_73 : decode cX6_add 73 = .ok (.aload_n 0, 1) := by decide +kernel
theorem dX6_add_74 : decode cX6_add 74 = .ok (.dup, 1) := by decide +kernel
theorem dX6_add_75 : decode cX6_add 75 = .ok (.getfield 48, 3) := by decide +kernel
theorem dX6_add_78 : decode cX6_add 78 = .ok (.iconst 1, 1) := by decide +kernel
theorem dX6_add_79 : decode cX6_add 79 = .ok (.iadd, 1) := by decide +kernel
theorem dX6_add_80 : decode cX6_add 80 = .ok (.putfield 48, 3) := by decide +kernel
theorem dX6_add_83 : decode cX6_add 83 = .ok (.return_, 1) := by decide +kernel
theorem dX6_hanging_0 : decode cX6_hanging 0 = .ok (.aload_n 0, 1) := by decide +kernel
theorem dX6_hanging_1 : decode cX6_hanging 1 = .ok (.getfield 51, 3) := by decide +kernel
theorem dX6_hanging_4 : decode cX6_hanging 4 = .ok (.aload_n 0, 1) := by decide +kernel
theorem dX6_hanging_5 : decode cX6_hanging 5 = .ok (.getfield 54, 3) := by decide +kernel
theorem dX6_hanging_8 : decode cX6_hanging 8 = .ok (.isub, 1) := by decide +kernel
theorem dX6_hanging_9 : decode cX6_hanging 9 = .ok (.ireturn, 1) := by decide +kernel
theorem dX6_stateOf_0 : decode cX6_stateOf 0 = .ok (.aload_n 0, 1) := by decide +kernel
theorem dX6_stateOf_1 : decode cX6_stateOf 1 = .ok (.getfield 37, 3) := by decide +kernel
theorem dX6_stateOf_4 : decode cX6_stateOf 4 = .ok (.iload_n 1, 1) := by decide +kernel
theorem dX6_stateOf_5 : decode cX6_stateOf 5 = .ok (.iaload, 1) := by decide +kernel
theorem dX6_stateOf_6 : decode cX6_stateOf 6 = .ok (.bipush (-9), 2) := by decide +kernel
theorem dX6_stateOf_8 : decode cX6_stateOf 8 = .ok (.if_icmp .eq 5, 3) := by decide +kernel
theorem dX6_stateOf_11 : decode cX6_stateOf 11 = .ok (.iconst 3, 1) := by decide +kernel
theorem dX6_stateOf_12 : decode cX6_stateOf 12 = .ok (.ireturn, 1) := by decide +kernel
theorem dX6_stateOf_13 : decode cX6_stateOf 13 = .ok (.iload_n 1, 1) := by decide +kernel
theorem dX6_stateOf_14 : decode cX6_stateOf 14 = .ok (.aload_n 0, 1) := by decide +kernel
theorem dX6_stateOf_15 : decode cX6_stateOf 15 = .ok (.getfield 54, 3) := by decide +kernel
theorem dX6_stateOf_18 : decode cX6_stateOf 18 = .ok (.if_icmp .ge 5, 3) := by decide +kernel
theorem dX6_stateOf_21 : decode cX6_stateOf 21 = .ok (.iconst 2, 1) := by decide +kernel
theorem dX6_stateOf_22 : decode cX6_stateOf 22 = .ok (.ireturn, 1) := by decide +kernel
theorem dX6_stateOf_23 : decode cX6_stateOf 23 = .ok (.iload_n 1, 1) := by decide +kernel
theorem dX6_stateOf_24 : decode cX6_stateOf 24 = .ok (.aload_n 0, 1) := by decide +kernel
theorem dX6_stateOf_25 : decode cX6_stateOf 25 = .ok (.getfield 51, 3) := by decide +kernel
theorem dX6_stateOf_28 : decode cX6_stateOf 28 = .ok (.if_icmp .ge 7, 3) := by decide +kernel
theorem dX6_stateOf_31 : decode cX6_stateOf 31 = .ok (.iconst 1, 1) := by decide +kernel
theorem dX6_stateOf_32 : decode cX6_stateOf 32 = .ok (.goto 4, 3) := by decide +kernel
theorem dX6_stateOf_35 : decode cX6_stateOf 35 = .ok (.iconst 0, 1) := by decide +kernel
theorem dX6_stateOf_36 : decode cX6_stateOf 36 = .ok (.ireturn, 1) := by decide +kernel
theorem dX6_hangWet_0 : decode cX6_hangWet 0 = .ok (.aload_n 0, 1) := by decide +kernel
theorem dX6_hangWet_1 : decode cX6_hangWet 1 = .ok (.getfield 51, 3) := by decide +kernel
theorem dX6_hangWet_4 : decode cX6_hangWet 4 = .ok (.aload_n 0, 1) := by decide +kernel
theorem dX6_hangWet_5 : decode cX6_hangWet 5 = .ok (.getfield 48, 3) := by decide +kernel
theorem dX6_hangWet_8 : decode cX6_hangWet 8 = .ok (.if_icmp .ge 37, 3) := by decide +kernel
theorem dX6_hangWet_11 : decode cX6_hangWet 11 = .ok (.aload_n 0, 1) := by decide +kernel
theorem dX6_hangWet_12 : decode cX6_hangWet 12 = .ok (.invokevirtual 57, 3) := by decide +kernel
theorem dX6_hangWet_15 : decode cX6_hangWet 15 = .ok (.aload_n 0, 1) := by decide +kernel
theorem dX6_hangWet_16 : decode cX6_hangWet 16 = .ok (.getfield 40, 3) := by decide +kernel
theorem dX6_hangWet_19 : decode cX6_hangWet 19 = .ok (.if_icmp .ge 26, 3) := by decide +kernel
theorem dX6_hangWet_22 : decode cX6_hangWet 22 = .ok (.aload_n 0, 1) := by decide +kernel
theorem dX6_hangWet_23 : decode cX6_hangWet 23 = .ok (.getfield 28, 3) := by decide +kernel
theorem dX6_hangWet_26 : decode cX6_hangWet 26 = .ok (.aload_n 0, 1) := by decide +kernel
theorem dX6_hangWet_27 : decode cX6_hangWet 27 = .ok (.getfield 51, 3) := by decide +kernel
theorem dX6_hangWet_30 : decode cX6_hangWet 30 = .ok (.iload_n 1, 1) := by decide +kernel
theorem dX6_hangWet_31 : decode cX6_hangWet 31 = .ok (.iastore, 1) := by decide +kernel
theorem dX6_hangWet_32 : decode cX6_hangWet 32 = .ok (.aload_n 0, 1) := by decide +kernel
theorem dX6_hangWet_33 : decode cX6_hangWet 33 = .ok (.dup, 1) := by decide +kernel
theorem dX6_hangWet_34 : decode cX6_hangWet 34 = .ok (.getfield 51, 3) := by decide +kernel
theorem dX6_hangWet_37 : decode cX6_hangWet 37 = .ok (.iconst 1, 1) := by decide +kernel
theorem dX6_hangWet_38 : decode cX6_hangWet 38 = .ok (.iadd, 1) := by decide +kernel
theorem dX6_hangWet_39 : decode cX6_hangWet 39 = .ok (.putfield 51, 3) := by decide +kernel
theorem dX6_hangWet_42 : decode cX6_hangWet 42 = .ok (.goto (-42), 3) := by decide +kernel
theorem dX6_hangWet_45 : decode cX6_hangWet 45 = .ok (.return_, 1) := by decide +kernel
theorem dX6_dryHanging_0 : decode cX6_dryHanging 0 = .ok (.aload_n 0, 1) := by decide +kernel
theorem dX6_dryHanging_1 : decode cX6_dryHanging 1 = .ok (.getfield 54, 3) := by decide +kernel
theorem dX6_dryHanging_4 : decode cX6_dryHanging 4 = .ok (.istore_n 3, 1) := by decide +kernel
theorem dX6_dryHanging_5 : decode cX6_dryHanging 5 = .ok (.iload_n 3, 1) := by decide +kernel
theorem dX6_dryHanging_6 : decode cX6_dryHanging 6 = .ok (.aload_n 0, 1) := by decide +kernel
theorem dX6_dryHanging_7 : decode cX6_dryHanging 7 = .ok (.getfield 51, 3) := by decide +kernel
theorem dX6_dryHanging_10 : decode cX6_dryHanging 10 = .ok (.if_icmp .ge 47, 3) := by decide +kernel
theorem dX6_dryHanging_13 : decode cX6_dryHanging 13 = .ok (.aload_n 0, 1) := by decide +kernel
theorem dX6_dryHanging_14 : decode cX6_dryHanging 14 = .ok (.getfield 31, 3) := by decide +kernel
theorem dX6_dryHanging_17 : decode cX6_dryHanging 17 = .ok (.iload_n 3, 1) := by decide +kernel
theorem dX6_dryHanging_18 : decode cX6_dryHanging 18 = .ok (.dup2, 1) := by decide +kernel
theorem dX6_dryHanging_19 : decode cX6_dryHanging 19 = .ok (.iaload, 1) := by decide +kernel
theorem dX6_dryHanging_20 : decode cX6_dryHanging 20 = .ok (.iload_n 1, 1) := by decide +kernel
theorem dX6_dryHanging_21 : decode cX6_dryHanging 21 = .ok (.iadd, 1) := by decide +kernel
theorem dX6_dryHanging_22 : decode cX6_dryHanging 22 = .ok (.iastore, 1) := by decide +kernel
theorem dX6_dryHanging_23 : decode cX6_dryHanging 23 = .ok (.aload_n 0, 1) := by decide +kernel
theorem dX6_dryHanging_24 : decode cX6_dryHanging 24 = .ok (.getfield 31, 3) := by decide +kernel
theorem dX6_dryHanging_27 : decode cX6_dryHanging 27 = .ok (.iload_n 3, 1) := by decide +kernel
theorem dX6_dryHanging_28 : decode cX6_dryHanging 28 = .ok (.iaload, 1) := by decide +kernel
theorem dX6_dryHanging_29 : decode cX6_dryHanging 29 = .ok (.bipush 40, 2) := by decide +kernel
theorem dX6_dryHanging_31 : decode cX6_dryHanging 31 = .ok (.if_icmp .lt 20, 3) := by decide +kernel
theorem dX6_dryHanging_34 : decode cX6_dryHanging 34 = .ok (.aload_n 0, 1) := by decide +kernel
theorem dX6_dryHanging_35 : decode cX6_dryHanging 35 = .ok (.getfield 34, 3) := by decide +kernel
theorem dX6_dryHanging_38 : decode cX6_dryHanging 38 = .ok (.iload_n 3, 1) := by decide +kernel
theorem dX6_dryHanging_39 : decode cX6_dryHanging 39 = .ok (.iload_n 2, 1) := by decide +kernel
theorem dX6_dryHanging_40 : decode cX6_dryHanging 40 = .ok (.iastore, 1) := by decide +kernel
theorem dX6_dryHanging_41 : decode cX6_dryHanging 41 = .ok (.aload_n 0, 1) := by decide +kernel
theorem dX6_dryHanging_42 : decode cX6_dryHanging 42 = .ok (.dup, 1) := by decide +kernel
theorem dX6_dryHanging_43 : decode cX6_dryHanging 43 = .ok (.getfield 54, 3) := by decide +kernel
theorem dX6_dryHanging_46 : decode cX6_dryHanging 46 = .ok (.iconst 1, 1) := by decide +kernel
theorem dX6_dryHanging_47 : decode cX6_dryHanging 47 = .ok (.iadd, 1) := by decide +kernel
theorem dX6_dryHanging_48 : decode cX6_dryHanging 48 = .ok (.putfield 54, 3) := by decide +kernel
theorem dX6_dryHanging_51 : decode cX6_dryHanging 51 = .ok (.iinc 3 1, 3) := by decide +kernel
theorem dX6_dryHanging_54 : decode cX6_dryHanging 54 = .ok (.goto (-49), 3) := by decide +kernel
theorem dX6_dryHanging_57 : decode cX6_dryHanging 57 = .ok (.return_, 1) := by decide +kernel
theorem dX6_finish_0 : decode cX6_finish 0 = .ok (.aload_n 0, 1) := by decide +kernel
theorem dX6_finish_1 : decode cX6_finish 1 = .ok (.getfield 28, 3) := by decide +kernel
theorem dX6_finish_4 : decode cX6_finish 4 = .ok (.iload_n 1, 1) := by decide +kernel
theorem dX6_finish_5 : decode cX6_finish 5 = .ok (.iaload, 1) := by decide +kernel
theorem dX6_finish_6 : decode cX6_finish 6 = .ok (.aload_n 0, 1) := by decide +kernel
theorem dX6_finish_7 : decode cX6_finish 7 = .ok (.getfield 25, 3) := by decide +kernel
theorem dX6_finish_10 : decode cX6_finish 10 = .ok (.iload_n 1, 1) := by decide +kernel
theorem dX6_finish_11 : decode cX6_finish 11 = .ok (.iaload, 1) := by decide +kernel
theorem dX6_finish_12 : decode cX6_finish 12 = .ok (.isub, 1) := by decide +kernel
theorem dX6_finish_13 : decode cX6_finish 13 = .ok (.bipush 24, 2) := by decide +kernel
theorem dX6_finish_15 : decode cX6_finish 15 = .ok (.idiv, 1) := by decide +kernel
theorem dX6_finish_16 : decode cX6_finish 16 = .ok (.istore_n 2, 1) := by decide +kernel
theorem dX6_finish_17 : decode cX6_finish 17 = .ok (.aload_n 0, 1) := by decide +kernel
theorem dX6_finish_18 : decode cX6_finish 18 = .ok (.getfield 37, 3) := by decide +kernel
theorem dX6_finish_21 : decode cX6_finish 21 = .ok (.iload_n 1, 1) := by decide +kernel
theorem dX6_finish_22 : decode cX6_finish 22 = .ok (.iconst 0, 1) := by decide +kernel
theorem dX6_finish_23 : decode cX6_finish 23 = .ok (.bipush 58, 2) := by decide +kernel
theorem dX6_finish_25 : decode cX6_finish 25 = .ok (.iload_n 2, 1) := by decide +kernel
theorem dX6_finish_26 : decode cX6_finish 26 = .ok (.isub, 1) := by decide +kernel
theorem dX6_finish_27 : decode cX6_finish 27 = .ok (.invokestatic 61, 3) := by decide +kernel
theorem dX6_finish_30 : decode cX6_finish 30 = .ok (.iastore, 1) := by decide +kernel
theorem dX6_finish_31 : decode cX6_finish 31 = .ok (.aload_n 0, 1) := by decide +kernel
theorem dX6_finish_32 : decode cX6_finish 32 = .ok (.getfield 37, 3) := by decide +kernel
theorem dX6_finish_35 : decode cX6_finish 35 = .ok (.iload_n 1, 1) := by decide +kernel
theorem dX6_finish_36 : decode cX6_finish 36 = .ok (.iaload, 1) := by decide +kernel
theorem dX6_finish_37 : decode cX6_finish 37 = .ok (.ireturn, 1) := by decide +kernel
theorem dX7_init_0 : decode cX7_init 0 = .ok (.aload_n 0, 1) := by decide +kernel
theorem dX7_init_1 : decode cX7_init 1 = .ok (.invokespecial 3, 3) := by decide +kernel
theorem dX7_init_4 : decode cX7_init 4 = .ok (.aload_n 0, 1) := by decide +kernel
theorem dX7_init_5 : decode cX7_init 5 = .ok (.bipush 9, 2) := by decide +kernel
theorem dX7_init_7 : decode cX7_init 7 = .ok (.newarray .int, 2) := by decide +kernel
theorem dX7_init_9 : decode cX7_init 9 = .ok (.putfield 9, 3) := by decide +kernel
theorem dX7_init_12 : decode cX7_init 12 = .ok (.aload_n 0, 1) := by decide +kernel
theorem dX7_init_13 : decode cX7_init 13 = .ok (.bipush 9, 2) := by decide +kernel
theorem dX7_init_15 : decode cX7_init 15 = .ok (.newarray .int, 2) := by decide +kernel
theorem dX7_init_17 : decode cX7_init 17 = .ok (.putfield 15, 3) := by decide +kernel
theorem dX7_init_20 : decode cX7_init 20 = .ok (.aload_n 0, 1) := by decide +kernel
theorem dX7_init_21 : decode cX7_init 21 = .ok (.bipush 9, 2) := by decide +kernel
theorem dX7_init_23 : decode cX7_init 23 = .ok (.newarray .int, 2) := by decide +kernel
theorem dX7_init_25 : decode cX7_init 25 = .ok (.putfield 18, 3) := by decide +kernel
theorem dX7_init_28 : decode cX7_init 28 = .ok (.aload_n 0, 1) := by decide +kernel
theorem dX7_init_29 : decode cX7_init 29 = .ok (.bipush 9, 2) := by decide +kernel
theorem dX7_init_31 : decode cX7_init 31 = .ok (.newarray .int, 2) := by decide +kernel
theorem dX7_init_33 : decode cX7_init 33 = .ok (.putfield 21, 3) := by decide +kernel
theorem dX7_init_36 : decode cX7_init 36 = .ok (.aload_n 0, 1) := by decide +kernel
theorem dX7_init_37 : decode cX7_init 37 = .ok (.getfield 9, 3) := by decide +kernel
theorem dX7_init_40 : decode cX7_init 40 = .ok (.iconst 5, 1) := by decide +kernel
theorem dX7_init_41 : decode cX7_init 41 = .ok (.invokestatic 24, 3) := by decide +kernel
theorem dX7_init_44 : decode cX7_init 44 = .ok (.aload_n 0, 1) := by decide +kernel
theorem dX7_init_45 : decode cX7_init 45 = .ok (.getfield 15, 3) := by decide +kernel
theorem dX7_init_48 : decode cX7_init 48 = .ok (.bipush 10, 2) := by decide +kernel
theorem dX7_init_50 : decode cX7_init 50 = .ok (.invokestatic 24, 3) := by decide +kernel
theorem dX7_init_53 : decode cX7_init 53 = .ok (.aload_n 0, 1) := by decide +kernel
theorem dX7_init_54 : decode cX7_init 54 = .ok (.getfield 18, 3) := by decide +kernel
theorem dX7_init_57 : decode cX7_init 57 = .ok (.bipush 8, 2) := by decide +kernel
theorem dX7_init_59 : decode cX7_init 59 = .ok (.invokestatic 24, 3) := by decide +kernel
theorem dX7_init_62 : decode cX7_init 62 = .ok (.return_, 1) := by decide +kernel
theorem dX8_init_0 : decode cX8_init 0 = .ok (.aload_n 0, 1) := by decide +kernel
theorem dX8_init_1 : decode cX8_init 1 = .ok (.invokespecial 3, 3) := by decide +kernel
theorem dX8_init_4 : decode cX8_init 4 = .ok (.aload_n 0, 1) := by decide +kernel
theorem dX8_init_5 : decode cX8_init 5 = .ok (.iconst 3, 1) := by decide +kernel
theorem dX8_init_6 : decode cX8_init 6 = .ok (.newarray .int, 2) := by decide +kernel
theorem dX8_init_8 : decode cX8_init 8 = .ok (.putfield 9, 3) := by decide +kernel
theorem dX8_init_11 : decode cX8_init 11 = .ok (.aload_n 0, 1) := by decide +kernel
theorem dX8_init_12 : decode cX8_init 12 = .ok (.iconst 3, 1) := by decide +kernel
theorem dX8_init_13 : decode cX8_init 13 = .ok (.newarray .int, 2) := by decide +kernel
theorem dX8_init_15 : decode cX8_init 15 = .ok (.putfield 15, 3) := by decide +kernel
theorem dX8_init_18 : decode cX8_init 18 = .ok (.aload_n 0, 1) := by decide +kernel
theorem dX8_init_19 : decode cX8_init 19 = .ok (.iconst 3, 1) := by decide +kernel
theorem dX8_init_20 : decode cX8_init 20 = .ok (.newarray .int, 2) := by decide +kernel
theorem dX8_init_22 : decode cX8_init 22 = .ok (.putfield 18, 3) := by decide +kernel
theorem dX8_init_25 : decode cX8_init 25 = .ok (.aload_n 0, 1) := by decide +kernel
theorem dX8_init_26 : decode cX8_init 26 = .ok (.iconst 3, 1) := by decide +kernel
theorem dX8_init_27 : decode cX8_init 27 = .ok (.newarray .int, 2) := by decide +kernel
theorem dX8_init_29 : decode cX8_init 29 = .ok (.putfield 21, 3) := by decide +kernel
theorem dX8_init_32 : decode cX8_init 32 = .ok (.aload_n 0, 1) := by decide +kernel
theorem dX8_init_33 : decode cX8_init 33 = .ok (.bipush 36, 2) := by decide +kernel
theorem dX8_init_35 : decode cX8_init 35 = .ok (.newarray .int, 2) := by decide +kernel
theorem dX8_init_37 : decode cX8_init 37 = .ok (.putfield 24, 3) := by decide +kernel
theorem dX8_init_40 : decode cX8_init 40 = .ok (.aload_n 0, 1) := by decide +kernel
theorem dX8_init_41 : decode cX8_init 41 = .ok (.aload_n 1, 1) := by decide +kernel
theorem dX8_init_42 : decode cX8_init 42 = .ok (.putfield 27, 3) := by decide +kernel
theorem dX8_init_45 : decode cX8_init 45 = .ok (.aload_n 0, 1) := by decide +kernel
theorem dX8_init_46 : decode cX8_init 46 = .ok (.aload_n 2, 1) := by decide +kernel
theorem dX8_init_47 : decode cX8_init 47 = .ok (.putfield 30, 3) := by decide +kernel
theorem dX8_init_50 : decode cX8_init 50 = .ok (.aload_n 0, 1) := by decide +kernel
theorem dX8_init_51 : decode cX8_init 51 = .ok (.aload_n 3, 1) := by decide +kernel
theorem dX8_init_52 : decode cX8_init 52 = .ok (.putfield 34, 3) := by decide +kernel
theorem dX8_init_55 : decode cX8_init 55 = .ok (.aload_n 0, 1) := by decide +kernel
theorem dX8_init_56 : decode cX8_init 56 = .ok (.getfield 9, 3) := by decide +kernel
theorem dX8_init_59 : decode cX8_init 59 = .ok (.bipush (-9), 2) := by decide +kernel
theorem dX8_init_61 : decode cX8_init 61 = .ok (.invokestatic 38, 3) := by decide +kernel
theorem dX8_init_64 : decode cX8_init 64 = .ok (.return_, 1) := by decide +kernel
theorem dX8_copyFrom_0 : decode cX8_copyFrom 0 = .ok (.aload_n 1, 1) := by decide +kernel
theorem dX8_copyFrom_1 : decode cX8_copyFrom 1 = .ok (.getfield 9, 3) := by decide +kernel
theorem dX8_copyFrom_4 : decode cX8_copyFrom 4 = .ok (.aload_n 0, 1) := by decide +kernel
theorem dX8_copyFrom_5 : decode cX8_copyFrom 5 = .ok (.getfield 9, 3) := by decide +kernel
theorem dX8_copyFrom_8 : decode cX8_copyFrom 8 = .ok (.invokestatic 44, 3) := by decide +kernel
theorem dX8_copyFrom_11 : decode cX8_copyFrom 11 = .ok (.aload_n 1, 1) := by decide +kernel
theorem dX8_copyFrom_12 : decode cX8_copyFrom 12 = .ok (.getfield 15, 3) := by decide +kernel
theorem dX8_copyFrom_15 : decode cX8_copyFrom 15 = .ok (.aload_n 0, 1) := by decide +kernel
theorem dX8_copyFrom_16 : decode cX8_copyFrom 16 = .ok (.getfield 15, 3) := by decide +kernel
theorem dX8_copyFrom_19 : decode cX8_copyFrom 19 = .ok (.invokestatic 44, 3) := by decide +kernel
theorem dX8_copyFrom_22 : decode cX8_copyFrom 22 = .ok (.aload_n 1, 1) := by decide +kernel
theorem dX8_copyFrom_23 : decode cX8_copyFrom 23 = .ok (.getfield 18, 3) := by decide +kernel
theorem dX8_copyFrom_26 : decode cX8_copyFrom 26 = .ok (.aload_n 0, 1) := by decide +kernel
theorem dX8_copyFrom_27 : decode cX8_copyFrom 27 = .ok (.getfield 18, 3) := by decide +kernel
theorem dX8_copyFrom_30 : decode cX8_copyFrom 30 = .ok (.invokestatic 44, 3) := by decide +kernel
theorem dX8_copyFrom_33 : decode cX8_copyFrom 33 = .ok (.aload_n 1, 1) := by decide +kernel
theorem dX8_copyFrom_34 : decode cX8_copyFrom 34 = .ok (.getfield 21, 3) := by decide +kernel
theorem dX8_copyFrom_37 : decode cX8_copyFrom 37 = .ok (.aload_n 0, 1) := by decide +kernel
theorem dX8_copyFrom_38 : decode cX8_copyFrom 38 = .ok (.getfield 21, 3) := by decide +kernel
theorem dX8_copyFrom_41 : decode cX8_copyFrom 41 = .ok (.invokestatic 44, 3) := by decide +kernel
theorem dX8_copyFrom_44 : decode cX8_copyFrom 44 = .ok (.aload_n 1, 1) := by decide +kernel
theorem dX8_copyFrom_45 : decode cX8_copyFrom 45 = .ok (.getfield 24, 3) := by decide +kernel
theorem dX8_copyFrom_48 : decode cX8_copyFrom 48 = .ok (.aload_n 0, 1) := by decide +kernel
theorem dX8_copyFrom_49 : decode cX8_copyFrom 49 = .ok (.getfield 24, 3) := by decide +kernel
theorem dX8_copyFrom_52 : decode cX8_copyFrom 52 = .ok (.invokestatic 44, 3) := by decide +kernel
theorem dX8_copyFrom_55 : decode cX8_copyFrom 55 = .ok (.aload_n 0, 1) := by decide +kernel
theorem dX8_copyFrom_56 : decode cX8_copyFrom 56 = .ok (.aload_n 1, 1) := by decide +kernel
theorem dX8_copyFrom_57 : decode cX8_copyFrom 57 = .ok (.getfield 48, 3) := by decide +kernel
theorem dX8_copyFrom_60 : decode cX8_copyFrom 60 = .ok (.putfield 48, 3) := by decide +kernel
theorem dX8_copyFrom_63 : decode cX8_copyFrom 63 = .ok (.return_, 1) := by decide +kernel
theorem dX8_isPairElsewhere_0 : decode cX8_isPairElsewhere 0 = .ok (.iconst 0, 1) := by decide +kernel
theorem dX8_isPairElsewhere_1 : decode cX8_isPairElsewhere 1 = .ok (.istore_n 3, 1) := by decide +kernel
theorem dX8_isPairElsewhere_2 : decode cX8_isPairElsewhere 2 = .ok (.iload_n 3, 1) := by decide +kernel
theorem dX8_isPairElsewhere_3 : decode cX8_isPairElsewhere 3 = .ok (.iconst 3, 1) := by decide +kernel
theorem dX8_isPairElsewhere_4 : decode cX8_isPairElsewhere 4 = .ok (.if_icmp .ge 26, 3) := by decide +kernel
theorem dX8_isPairElsewhere_7 : decode cX8_isPairElsewhere 7 = .ok (.iload_n 3, 1) := by decide +kernel
theorem dX8_isPairElsewhere_8 : decode cX8_isPairElsewhere 8 = .ok (.iload_n 1, 1) := by decide +kernel
theorem dX8_isPairElsewhere_9 : decode cX8_isPairElsewhere 9 = .ok (.if_icmp .eq 15, 3) := by decide +kernel
theorem dX8_isPairElsewhere_12 : decode cX8_isPairElsewhere 12 = .ok (.aload_n 0, 1) := by decide +kernel
theorem dX8_isPairElsewhere_13 : decode cX8_isPairElsewhere 13 = .ok (.getfield 9, 3) := by decide +kernel
theorem dX8_isPairElsewhere_16 : decode cX8_isPairElsewhere 16 = .ok (.iload_n 3, 1) := by decide +kernel
theorem dX8_isPairElsewhere_17 : decode cX8_isPairElsewhere 17 = .ok (.iaload, 1) := by decide +kernel
theorem dX8_isPairElsewhere_18 : decode cX8_isPairElsewhere 18 = .ok (.iload_n 2, 1) := by decide +kernel
theorem dX8_isPairElsewhere_19 : decode cX8_isPairElsewhere 19 = .ok (.if_icmp .ne 5, 3) := by decide +kernel
theorem dX8_isPairElsewhere_22 : decode cX8_isPairElsewhere 22 = .ok (.iconst 1, 1) := by decide +kernel
theorem dX8_isPairElsewhere_23 : decode cX8_isPairElsewhere 23 = .ok (.ireturn, 1) := by decide +kernel
theorem dX8_isPairElsewhere_24 : decode cX8_isPairElsewhere 24 = .ok (.iinc 3 1, 3) := by decide +kernel
theorem dX8_isPairElsewhere_27 : decode cX8_isPairElsewhere 27 = .ok (.goto (-25), 3) := by decide +kernel
theorem dX8_isPairElsewhere_30 : decode cX8_isPairElsewhere 30 = .ok (.iconst 0, 1) := by decide +kernel
theorem dX8_isPairElsewhere_31 : decode cX8_isPairElsewhere 31 = .ok (.ireturn, 1) := by decide +kernel
theorem dX8_isPairAtPost_0 : decode cX8_isPairAtPost 0 = .ok (.iconst 0, 1) := by decide +kernel
theorem dX8_isPairAtPost_1 : decode cX8_isPairAtPost 1 = .ok (.istore_n 2, 1) := by decide +kernel
theorem dX8_isPairAtPost_2 : decode cX8_isPairAtPost 2 = .ok (.iload_n 2, 1) := by decide +kernel
theorem dX8_isPairAtPost_3 : decode cX8_isPairAtPost 3 = .ok (.iconst 3, 1) := by decide +kernel
theorem dX8_isPairAtPost_4 : decode cX8_isPairAtPost 4 = .ok (.if_icmp .ge 30, 3) := by decide +kernel
theorem dX8_isPairAtPost_7 : decode cX8_isPairAtPost 7 = .ok (.aload_n 0, 1) := by decide +kernel
theorem dX8_isPairAtPost_8 : decode cX8_isPairAtPost 8 = .ok (.getfield 9, 3) := by decide +kernel
theorem dX8_isPairAtPost_11 : decode cX8_isPairAtPost 11 = .ok (.iload_n 2, 1) := by decide +kernel
theorem dX8_isPairAtPost_12 : decode cX8_isPairAtPost 12 = .ok (.iaload, 1) := by decide +kernel
theorem dX8_isPairAtPost_13 : decode cX8_isPairAtPost 13 = .ok (.iload_n 1, 1) := by decide +kernel
theorem dX8_isPairAtPost_14 : decode cX8_isPairAtPost 14 = .ok (.if_icmp .ne 14, 3) := by decide +kernel
theorem dX8_isPairAtPost_17 : decode cX8_isPairAtPost 17 = .ok (.aload_n 0, 1) := by decide +kernel
theorem dX8_isPairAtPost_18 : decode cX8_isPairAtPost 18 = .ok (.getfield 18, 3) := by decide +kernel
theorem dX8_isPairAtPost_21 : decode cX8_isPairAtPost 21 = .ok (.iload_n 2, 1) := by decide +kernel
theorem dX8_isPairAtPost_22 : decode cX8_isPairAtPost 22 = .ok (.iaload, 1) := by decide +kernel
theorem dX8_isPairAtPost_23 : decode cX8_isPairAtPost 23 = .ok (.ifCond .le 5, 3) := by decide +kernel
theorem dX8_isPairAtPost_26 : decode cX8_isPairAtPost 26 = .ok (.iconst 1, 1) := by decide +kernel
theorem dX8_isPairAtPost_27 : decode cX8_isPairAtPost 27 = .ok (.ireturn, 1) := by decide +kernel
theorem dX8_isPairAtPost_28 : decode cX8_isPairAtPost 28 = .ok (.iinc 2 1, 3) := by decide +kernel
theorem dX8_isPairAtPost_31 : decode cX8_isPairAtPost 31 = .ok (.goto (-29), 3) := by decide +kernel
theorem dX8_isPairAtPost_34 : decode cX8_isPairAtPost 34 = .ok (.iconst 0, 1) := by decide +kernel
theorem dX8_isPairAtPost_35 : decode cX8_isPairAtPost 35 = .ok (.ireturn, 1) := by decide +kernel
theorem dX8_work_0 : decode cX8_work 0 = .ok (.iload_n 1, 1) := by decide +kernel
theorem dX8_work_1 : decode cX8_work 1 = .ok (.istore_n 3, 1) := by decide +kernel
theorem dX8_work_2 : decode cX8_work 2 = .ok (.iconst 0, 1) := by decide +kernel
theorem dX8_work_3 : decode cX8_work 3 = .ok (.istore 4, 2) := by decide +kernel
theorem dX8_work_5 : decode cX8_work 5 = .ok (.iload 4, 2) := by decide +kernel
theorem dX8_work_7 : decode cX8_work 7 = .ok (.iconst 3, 1) := by decide +kernel
theorem dX8_work_8 : decode cX8_work 8 = .ok (.if_icmp .ge 62, 3) := by decide +kernel
theorem dX8_work_11 : decode cX8_work 11 = .ok (.aload_n 0, 1) := by decide +kernel
theorem dX8_work_12 : decode cX8_work 12 = .ok (.getfield 9, 3) := by decide +kernel
theorem dX8_work_15 : decode cX8_work 15 = .ok (.iload 4, 2) := by decide +kernel
theorem dX8_work_17 : decode cX8_work 17 = .ok (.iaload, 1) := by decide +kernel
theorem dX8_work_18 : decode cX8_work 18 = .ok (.bipush (-9), 2) := by decide +kernel
theorem dX8_work_20 : decode cX8_work 20 = .ok (.if_icmp .ne 6, 3) := by decide +kernel
theorem dX8_work_23 : decode cX8_work 23 = .ok (.goto 41, 3) := by decide +kernel
theorem dX8_work_26 : decode cX8_work 26 = .ok (.iload_n 3, 1) := by decide +kernel
theorem dX8_work_27 : decode cX8_work 27 = .ok (.iconst 2, 1) := by decide +kernel
theorem dX8_work_28 : decode cX8_work 28 = .ok (.if_icmp .lt 25, 3) := by decide +kernel
theorem dX8_work_31 : decode cX8_work 31 = .ok (.aload_n 0, 1) := by decide +kernel
theorem dX8_work_32 : decode cX8_work 32 = .ok (.iload 4, 2) := by decide +kernel
theorem dX8_work_34 : decode cX8_work 34 = .ok (.invokevirtual 52, 3) := by decide +kernel
theorem dX8_work_37 : decode cX8_work 37 = .ok (.ifCond .eq 16, 3) := by decide +kernel
theorem dX8_work_40 : decode cX8_work 40 = .ok (.iinc 3 (-2), 3) := by decide +kernel
theorem dX8_work_43 : decode cX8_work 43 = .ok (.aload_n 0, 1) := by decide +kernel
theorem dX8_work_44 : decode cX8_work 44 = .ok (.iload 4, 2) := by decide +kernel
theorem dX8_work_46 : decode cX8_work 46 = .ok (.iload_n 2, 1) := by decide +kernel
theorem dX8_work_47 : decode cX8_work 47 = .ok (.invokevirtual 56, 3) := by decide +kernel
theorem dX8_work_50 : decode cX8_work 50 = .ok (.goto 14, 3) := by decide +kernel
theorem dX8_work_53 : decode cX8_work 53 = .ok (.aload_n 0, 1) := by decide +kernel
theorem dX8_work_54 : decode cX8_work 54 = .ok (.getfield 21, 3) := by decide +kernel
theorem dX8_work_57 : decode cX8_work 57 = .ok (.iload 4, 2) := by decide +kernel
theorem dX8_work_59 : decode cX8_work 59 = .ok (.dup2, 1) := by decide +kernel
theorem dX8_work_60 : decode cX8_work 60 = .ok (.iaload, 1) := by decide +kernel
theorem dX8_work_61 : decode cX8_work 61 = .ok (.iconst 1, 1) := by decide +kernel
theorem dX8_work_62 : decode cX8_work 62 = .ok (.iadd, 1) := by decide +kernel
theorem dX8_work_63 : decode cX8_work 63 = .ok (.iastore, 1) := by decide +kernel
theorem dX8_work_64 : decode cX8_work 64 = .ok (.iinc 4 1, 3) := by decide +kernel
theorem dX8_work_67 : decode cX8_work 67 = .ok (.goto (-62), 3) := by decide +kernel
theorem dX8_work_70 : decode cX8_work 70 = .ok (.return_, 1) := by decide +kernel
theorem dX8_canMake_0 : decode cX8_canMake 0 = .ok (.aload_n 0, 1) := by decide +kernel
theorem dX8_canMake_1 : decode cX8_canMake 1 = .ok (.getfield 34, 3) := by decide +kernel
theorem dX8_canMake_4 : decode cX8_canMake 4 = .ok (.getfield 60, 3) := by decide +kernel
theorem dX8_canMake_7 : decode cX8_canMake 7 = .ok (.bipush 80, 2) := by decide +kernel
theorem dX8_canMake_9 : decode cX8_canMake 9 = .ok (.if_icmp .ge 35, 3) := by decide +kernel
theorem dX8_canMake_12 : decode cX8_canMake 12 = .ok (.aload_n 0, 1) := by decide +kernel
theorem dX8_canMake_13 : decode cX8_canMake 13 = .ok (.getfield 27, 3) := by decide +kernel
theorem dX8_canMake_16 : decode cX8_canMake 16 = .ok (.aload_n 0, 1) := by decide +kernel
theorem dX8_canMake_17 : decode cX8_canMake 17 = .ok (.getfield 15, 3) := by decide +kernel
theorem dX8_canMake_20 : decode cX8_canMake 20 = .ok (.iload_n 1, 1) := by decide +kernel
theorem dX8_canMake_21 : decode cX8_canMake 21 = .ok (.iaload, 1) := by decide +kernel
theorem dX8_canMake_22 : decode cX8_canMake 22 = .ok (.iaload, 1) := by decide +kernel
theorem dX8_canMake_23 : decode cX8_canMake 23 = .ok (.aload_n 0, 1) := by decide +kernel
theorem dX8_canMake_24 : decode cX8_canMake 24 = .ok (.getfield 30, 3) := by decide +kernel
theorem dX8_canMake_27 : decode cX8_canMake 27 = .ok (.getfield 65, 3) := by decide +kernel
theorem dX8_canMake_30 : decode cX8_canMake 30 = .ok (.aload_n 0, 1) := by decide +kernel
theorem dX8_canMake_31 : decode cX8_canMake 31 = .ok (.getfield 9, 3) := by decide +kernel
theorem dX8_canMake_34 : decode cX8_canMake 34 = .ok (.iload_n 1, 1) := by decide +kernel
theorem dX8_canMake_35 : decode cX8_canMake 35 = .ok (.iaload, 1) := by decide +kernel
theorem dX8_canMake_36 : decode cX8_canMake 36 = .ok (.iaload, 1) := by decide +kernel
theorem dX8_canMake_37 : decode cX8_canMake 37 = .ok (.if_icmp .lt 7, 3) := by decide +kernel
theorem dX8_canMake_40 : decode cX8_canMake 40 = .ok (.iconst 1, 1) := by decide +kernel
theorem dX8_canMake_41 : decode cX8_canMake 41 = .ok (.goto 4, 3) := by decide +kernel
theorem dX8_canMake_44 : decode cX8_canMake 44 = .ok (.iconst 0, 1) := by decide +kernel
theorem dX8_canMake_45 : decode cX8_canMake 45 = .ok (.ireturn, 1) := by decide +kernel
theorem dX8_makeSheets_0 : decode cX8_makeSheets 0 = .ok (.iconst 0, 1) := by decide +kernel
theorem dX8_makeSheets_1 : decode cX8_makeSheets 1 = .ok (.istore_n 3, 1) := by decide +kernel
theorem dX8_makeSheets_2 : decode cX8_makeSheets 2 = .ok (.iload_n 3, 1) := by decide +kernel
theorem dX8_makeSheets_3 : decode cX8_makeSheets 3 = .ok (.bipush 20, 2) := by decide +kernel
theorem dX8_makeSheets_5 : decode cX8_makeSheets 5 = .ok (.if_icmp .ge 39, 3) := by decide +kernel
theorem dX8_makeSheets_8 : decode cX8_makeSheets 8 = .ok (.aload_n 0, 1) := by decide +kernel
theorem dX8_makeSheets_9 : decode cX8_makeSheets 9 = .ok (.iload_n 1, 1) := by decide +kernel
theorem dX8_makeSheets_10 : decode cX8_makeSheets 10 = .ok (.invokevirtual 52, 3) := by decide +kernel
theorem dX8_makeSheets_13 : decode cX8_makeSheets 13 = .ok (.ifCond .eq 31, 3) := by decide +kernel
theorem dX8_makeSheets_16 : decode cX8_makeSheets 16 = .ok (.aload_n 0, 1) := by decide +kernel
theorem dX8_makeSheets_17 : decode cX8_makeSheets 17 = .ok (.iload_n 1, 1) := by decide +kernel
theorem dX8_makeSheets_18 : decode cX8_makeSheets 18 = .ok (.invokevirtual 70, 3) := by decide +kernel
theorem dX8_makeSheets_21 : decode cX8_makeSheets 21 = .ok (.aload_n 0, 1) := by decide +kernel
theorem dX8_makeSheets_22 : decode cX8_makeSheets 22 = .ok (.getfield 18, 3) := by decide +kernel
theorem dX8_makeSheets_25 : decode cX8_makeSheets 25 = .ok (.iload_n 1, 1) := by decide +kernel
theorem dX8_makeSheets_26 : decode cX8_makeSheets 26 = .ok (.iaload, 1) := by decide +kernel
theorem dX8_makeSheets_27 : decode cX8_makeSheets 27 = .ok (.bipush 60, 2) := by decide +kernel
theorem dX8_makeSheets_29 : decode cX8_makeSheets 29 = .ok (.if_icmp .ne 9, 3) := by decide +kernel
theorem dX8_makeSheets_32 : decode cX8_makeSheets 32 = .ok (.aload_n 0, 1) := by decide +kernel
theorem dX8_makeSheets_33 : decode cX8_makeSheets 33 = .ok (.iload_n 1, 1) := by decide +kernel
theorem dX8_makeSheets_34 : decode cX8_makeSheets 34 = .ok (.iload_n 2, 1) := by decide +kernel
theorem dX8_makeSheets_35 : decode cX8_makeSheets 35 = .ok (.invokevirtual 74, 3) := by decide +kernel
theorem dX8_makeSheets_38 : decode cX8_makeSheets 38 = .ok (.iinc 3 1, 3) := by decide +kernel
theorem dX8_makeSheets_41 : decode cX8_makeSheets 41 = .ok (.goto (-39), 3) := by decide +kernel
theorem dX8_makeSheets_44 : decode cX8_makeSheets 44 = .ok (.return_, 1) := by decide +kernel
theorem dX8_makeSheet_0 : decode cX8_makeSheet 0 = .ok (.aload_n 0, 1) := by decide +kernel
theorem dX8_makeSheet_1 : decode cX8_makeSheet 1 = .ok (.getfield 18, 3) := by decide +kernel
theorem dX8_makeSheet_4 : decode cX8_makeSheet 4 = .ok (.iload_n 1, 1) := by decide +kernel
theorem dX8_makeSheet_5 : decode cX8_makeSheet 5 = .ok (.iaload, 1) := by decide +kernel
theorem dX8_makeSheet_6 : decode cX8_makeSheet 6 = .ok (.ifCond .ne 32, 3) := by decide +kernel
theorem dX8_makeSheet_9 : decode cX8_makeSheet 9 = .ok (.aload_n 0, 1) := by decide +kernel
theorem dX8_makeSheet_10 : decode cX8_makeSheet 10 = .ok (.getfield 30, 3) := by decide +kernel
theorem dX8_makeSheet_13 : decode cX8_makeSheet 13 = .ok (.getfield 77, 3) := by decide +kernel
theorem dX8_makeSheet_16 : decode cX8_makeSheet 16 = .ok (.aload_n 0, 1) := by decide +kernel
theorem dX8_makeSheet_17 : decode cX8_makeSheet 17 = .ok (.getfield 9, 3) := by decide +kernel
theorem dX8_makeSheet_20 : decode cX8_makeSheet 20 = .ok (.iload_n 1, 1) := by decide +kernel
theorem dX8_makeSheet_21 : decode cX8_makeSheet 21 = .ok (.iaload, 1) := by decide +kernel
theorem dX8_makeSheet_22 : decode cX8_makeSheet 22 = .ok (.bipush 12, 2) := by decide +kernel
theorem dX8_makeSheet_24 : decode cX8_makeSheet 24 = .ok (.imul, 1) := by decide +kernel
theorem dX8_makeSheet_25 : decode cX8_makeSheet 25 = .ok (.aload_n 0, 1) := by decide +kernel
theorem dX8_makeSheet_26 : decode cX8_makeSheet 26 = .ok (.getfield 24, 3) := by decide +kernel
theorem dX8_makeSheet_29 : decode cX8_makeSheet 29 = .ok (.iload_n 1, 1) := by decide +kernel
theorem dX8_makeSheet_30 : decode cX8_makeSheet 30 = .ok (.bipush 12, 2) := by decide +kernel
theorem dX8_makeSheet_32 : decode cX8_makeSheet 32 = .ok (.imul, 1) := by decide +kernel
theorem dX8_makeSheet_33 : decode cX8_makeSheet 33 = .ok (.bipush 12, 2) := by decide +kernel
theorem dX8_makeSheet_35 : decode cX8_makeSheet 35 = .ok (.invokestatic 80, 3) := by decide +kernel
theorem dX8_makeSheet_38 : decode cX8_makeSheet 38 = .ok (.aload_n 0, 1) := by decide +kernel
theorem dX8_makeSheet_39 : decode cX8_makeSheet 39 = .ok (.getfield 27, 3) := by decide +kernel
theorem dX8_makeSheet_42 : decode cX8_makeSheet 42 = .ok (.aload_n 0, 1) := by decide +kernel
theorem dX8_makeSheet_43 : decode cX8_makeSheet 43 = .ok (.getfield 15, 3) := by decide +kernel
theorem dX8_makeSheet_46 : decode cX8_makeSheet 46 = .ok (.iload_n 1, 1) := by decide +kernel
theorem dX8_makeSheet_47 : decode cX8_makeSheet 47 = .ok (.iaload, 1) := by decide +kernel
theorem dX8_makeSheet_48 : decode cX8_makeSheet 48 = .ok (.dup2, 1) := by decide +kernel
theorem dX8_makeSheet_49 : decode cX8_makeSheet 49 = .ok (.iaload, 1) := by decide +kernel
theorem dX8_makeSheet_50 : decode cX8_makeSheet 50 = .ok (.aload_n 0, 1) := by decide +kernel
theorem dX8_makeSheet_51 : decode cX8_makeSheet 51 = .ok (.getfield 30, 3) := by decide +kernel
theorem dX8_makeSheet_54 : decode cX8_makeSheet 54 = .ok (.getfield 65, 3) := by decide +kernel
theorem dX8_makeSheet_57 : decode cX8_makeSheet 57 = .ok (.aload_n 0, 1) := by decide +kernel
theorem dX8_makeSheet_58 : decode cX8_makeSheet 58 = .ok (.getfield 9, 3) := by decide +kernel
theorem dX8_makeSheet_61 : decode cX8_makeSheet 61 = .ok (.iload_n 1, 1) := by decide +kernel
theorem dX8_makeSheet_62 : decode cX8_makeSheet 62 = .ok (.iaload, 1) := by decide +kernel
theorem dX8_makeSheet_63 : decode cX8_makeSheet 63 = .ok (.iaload, 1) := by decide +kernel
theorem dX8_makeSheet_64 : decode cX8_makeSheet 64 = .ok (.isub, 1) := by decide +kernel
theorem dX8_makeSheet_65 : decode cX8_makeSheet 65 = .ok (.iastore, 1) := by decide +kernel
theorem dX8_makeSheet_66 : decode cX8_makeSheet 66 = .ok (.aload_n 0, 1) := by decide +kernel
theorem dX8_makeSheet_67 : decode cX8_makeSheet 67 = .ok (.getfield 30, 3) := by decide +kernel
theorem dX8_makeSheet_70 : decode cX8_makeSheet 70 = .ok (.iconst 2, 1) := by decide +kernel
theorem dX8_makeSheet_71 : decode cX8_makeSheet 71 = .ok (.aload_n 0, 1) := by decide +kernel
theorem dX8_makeSheet_72 : decode cX8_makeSheet 72 = .ok (.getfield 9, 3) := by decide +kernel
theorem dX8_makeSheet_75 : decode cX8_makeSheet 75 = .ok (.iload_n 1, 1) := by decide +kernel
theorem dX8_makeSheet_76 : decode cX8_makeSheet 76 = .ok (.iaload, 1) := by decide +kernel
theorem dX8_makeSheet_77 : decode cX8_makeSheet 77 = .ok (.imul, 1) := by decide +kernel
theorem dX8_makeSheet_78 : decode cX8_makeSheet 78 = .ok (.aload_n 0, 1) := by decide +kernel
theorem dX8_makeSheet_79 : decode cX8_makeSheet 79 = .ok (.getfield 18, 3) := by decide +kernel
theorem dX8_makeSheet_82 : decode cX8_makeSheet 82 = .ok (.iload_n 1, 1) := by decide +kernel
theorem dX8_makeSheet_83 : decode cX8_makeSheet 83 = .ok (.iaload, 1) := by decide +kernel
theorem dX8_makeSheet_84 : decode cX8_makeSheet 84 = .ok (.iconst 2, 1) := by decide +kernel
theorem dX8_makeSheet_85 : decode cX8_makeSheet 85 = .ok (.irem, 1) := by decide +kernel
theorem dX8_makeSheet_86 : decode cX8_makeSheet 86 = .ok (.iadd, 1) := by decide +kernel
theorem dX8_makeSheet_87 : decode cX8_makeSheet 87 = .ok (.invokevirtual 86, 3) := by decide +kernel
theorem dX8_makeSheet_90 : decode cX8_makeSheet 90 = .ok (.aload_n 0, 1) := by decide +kernel
theorem dX8_makeSheet_91 : decode cX8_makeSheet 91 = .ok (.getfield 18, 3) := by decide +kernel
theorem dX8_makeSheet_94 : decode cX8_makeSheet 94 = .ok (.iload_n 1, 1) := by decide +kernel
theorem dX8_makeSheet_95 : decode cX8_makeSheet 95 = .ok (.dup2, 1) := by decide +kernel
theorem dX8_makeSheet_96 : decode cX8_makeSheet 96 = .ok (.iaload, 1) := by decide +kernel
theorem dX8_makeSheet_97 : decode cX8_makeSheet 97 = .ok (.iconst 1, 1) := by decide +kernel
theorem dX8_makeSheet_98 : decode cX8_makeSheet 98 = .ok (.iadd, 1) := by decide +kernel
theorem dX8_makeSheet_99 : decode cX8_makeSheet 99 = .ok (.iastore, 1) := by decide +kernel
theorem dX8_makeSheet_100 : decode cX8_makeSheet 100 = .ok (.aload_n 0, 1) := by decide +kernel
theorem dX8_makeSheet_101 : decode cX8_makeSheet 101 = .ok (.dup, 1) := by decide +kernel
theorem dX8_makeSheet_102 : decode cX8_makeSheet 102 = .ok (.getfield 48, 3) := by decide +kernel
theorem dX8_makeSheet_105 : decode cX8_makeSheet 105 = .ok (.iconst 1, 1) := by decide +kernel
theorem dX8_makeSheet_106 : decode cX8_makeSheet 106 = .ok (.iadd, 1) := by decide +kernel
theorem dX8_makeSheet_107 : decode cX8_makeSheet 107 = .ok (.putfield 48, 3) := by decide +kernel
theorem dX8_makeSheet_110 : decode cX8_makeSheet 110 = .ok (.return_, 1) := by decide +kernel
theorem dX8_endPost_0 : decode cX8_endPost 0 = .ok (.aload_n 0, 1) := by decide +kernel
theorem dX8_endPost_1 : decode cX8_endPost 1 = .ok (.getfield 34, 3) := by decide +kernel
theorem dX8_endPost_4 : decode cX8_endPost 4 = .ok (.getfield 89, 3) := by decide +kernel
theorem dX8_endPost_7 : decode cX8_endPost 7 = .ok (.aload_n 0, 1) := by decide +kernel
theorem dX8_endPost_8 : decode cX8_endPost 8 = .ok (.getfield 34, 3) := by decide +kernel
theorem dX8_endPost_11 : decode cX8_endPost 11 = .ok (.getfield 60, 3) := by decide +kernel
theorem dX8_endPost_14 : decode cX8_endPost 14 = .ok (.aload_n 0, 1) := by decide +kernel
theorem dX8_endPost_15 : decode cX8_endPost 15 = .ok (.getfield 24, 3) := by decide +kernel
theorem dX8_endPost_18 : decode cX8_endPost 18 = .ok (.iload_n 1, 1) := by decide +kernel
theorem dX8_endPost_19 : decode cX8_endPost 19 = .ok (.bipush 12, 2) := by decide +kernel
theorem dX8_endPost_21 : decode cX8_endPost 21 = .ok (.imul, 1) := by decide +kernel
theorem dX8_endPost_22 : decode cX8_endPost 22 = .ok (.aload_n 0, 1) := by decide +kernel
theorem dX8_endPost_23 : decode cX8_endPost 23 = .ok (.getfield 30, 3) := by decide +kernel
theorem dX8_endPost_26 : decode cX8_endPost 26 = .ok (.aload_n 0, 1) := by decide +kernel
theorem dX8_endPost_27 : decode cX8_endPost 27 = .ok (.getfield 9, 3) := by decide +kernel
theorem dX8_endPost_30 : decode cX8_endPost 30 = .ok (.iload_n 1, 1) := by decide +kernel
theorem dX8_endPost_31 : decode cX8_endPost 31 = .ok (.iaload, 1) := by decide +kernel
theorem dX8_endPost_32 : decode cX8_endPost 32 = .ok (.invokevirtual 93, 3) := by decide +kernel
theorem dX8_endPost_35 : decode cX8_endPost 35 = .ok (.aload_n 0, 1) := by decide +kernel
theorem dX8_endPost_36 : decode cX8_endPost 36 = .ok (.getfield 34, 3) := by decide +kernel
theorem dX8_endPost_39 : decode cX8_endPost 39 = .ok (.aload_n 0, 1) := by decide +kernel
theorem dX8_endPost_40 : decode cX8_endPost 40 = .ok (.getfield 9, 3) := by decide +kernel
theorem dX8_endPost_43 : decode cX8_endPost 43 = .ok (.iload_n 1, 1) := by decide +kernel
theorem dX8_endPost_44 : decode cX8_endPost 44 = .ok (.iaload, 1) := by decide +kernel
theorem dX8_endPost_45 : decode cX8_endPost 45 = .ok (.aload_n 0, 1) := by decide +kernel
theorem dX8_endPost_46 : decode cX8_endPost 46 = .ok (.getfield 15, 3) := by decide +kernel
theorem dX8_endPost_49 : decode cX8_endPost 49 = .ok (.iload_n 1, 1) := by decide +kernel
theorem dX8_endPost_50 : decode cX8_endPost 50 = .ok (.iaload, 1) := by decide +kernel
theorem dX8_endPost_51 : decode cX8_endPost 51 = .ok (.iload_n 2, 1) := by decide +kernel
theorem dX8_endPost_52 : decode cX8_endPost 52 = .ok (.invokevirtual 99, 3) := by decide +kernel
theorem dX8_endPost_55 : decode cX8_endPost 55 = .ok (.aload_n 0, 1) := by decide +kernel
theorem dX8_endPost_56 : decode cX8_endPost 56 = .ok (.getfield 18, 3) := by decide +kernel
theorem dX8_endPost_59 : decode cX8_endPost 59 = .ok (.iload_n 1, 1) := by decide +kernel
theorem dX8_endPost_60 : decode cX8_endPost 60 = .ok (.iconst 0, 1) := by decide +kernel
theorem dX8_endPost_61 : decode cX8_endPost 61 = .ok (.iastore, 1) := by decide +kernel
theorem dX8_endPost_62 : decode cX8_endPost 62 = .ok (.return_, 1) := by decide +kernel
theorem dX9_init_0 : decode cX9_init 0 = .ok (.aload_n 0, 1) := by decide +kernel
theorem dX9_init_1 : decode cX9_init 1 = .ok (.invokespecial 3, 3) := by decide +kernel
theorem dX9_init_4 : decode cX9_init 4 = .ok (.aload_n 0, 1) := by decide +kernel
theorem dX9_init_5 : decode cX9_init 5 = .ok (.iconst 3, 1) := by decide +kernel
theorem dX9_init_6 : decode cX9_init 6 = .ok (.bipush 101, 2) := by decide +kernel
theorem dX9_init_8 : decode cX9_init 8 = .ok (.multianewarray 9 2, 4) := by decide +kernel
theorem dX9_init_12 : decode cX9_init 12 = .ok (.putfield 11, 3) := by decide +kernel
theorem dX9_init_15 : decode cX9_init 15 = .ok (.aload_n 0, 1) := by decide +kernel
theorem dX9_init_16 : decode cX9_init 16 = .ok (.iconst 3, 1) := by decide +kernel
theorem dX9_init_17 : decode cX9_init 17 = .ok (.bipush 101, 2) := by decide +kernel
theorem dX9_init_19 : decode cX9_init 19 = .ok (.multianewarray 9 2, 4) := by decide +kernel
theorem dX9_init_23 : decode cX9_init 23 = .ok (.putfield 16, 3) := by decide +kernel
theorem dX9_init_26 : decode cX9_init 26 = .ok (.aload_n 0, 1) := by decide +kernel
end
section
theorem dX9_init_27 : decode cX9_init 27 = .ok (.getfield 11, 3) := by decide +kernel
theorem dX9_init_30 : decode cX9_init 30 = .ok (.iconst 0, 1) := by decide +kernel
theorem dX9_init_31 : decode cX9_init 31 = .ok (.aaload, 1) := by decide +kernel
theorem dX9_init_32 : decode cX9_init 32 = .ok (.iconst (-1), 1) := by decide +kernel
theorem dX9_init_33 : decode cX9_init 33 = .ok (.invokestatic 19, 3) := by decide +kernel
theorem dX9_init_36 : decode cX9_init 36 = .ok (.aload_n 0, 1) := by decide +kernel
theorem dX9_init_37 : decode cX9_init 37 = .ok (.getfield 11, 3) := by decide +kernel
theorem dX9_init_40 : decode cX9_init 40 = .ok (.iconst 1, 1) := by decide +kernel
theorem dX9_init_41 : decode cX9_init 41 = .ok (.aaload, 1) := by decide +kernel
theorem dX9_init_42 : decode cX9_init 42 = .ok (.iconst (-1), 1) := by decide +kernel
theorem dX9_init_43 : decode cX9_init 43 = .ok (.invokestatic 19, 3) := by decide +kernel
theorem dX9_init_46 : decode cX9_init 46 = .ok (.aload_n 0, 1) := by decide +kernel
theorem dX9_init_47 : decode cX9_init 47 = .ok (.getfield 16, 3) := by decide +kernel
theorem dX9_init_50 : decode cX9_init 50 = .ok (.iconst 0, 1) := by decide +kernel
theorem dX9_init_51 : decode cX9_init 51 = .ok (.aaload, 1) := by decide +kernel
theorem dX9_init_52 : decode cX9_init 52 = .ok (.getstatic 25, 3) := by decide +kernel
theorem dX9_init_55 : decode cX9_init 55 = .ok (.iconst 0, 1) := by decide +kernel
theorem dX9_init_56 : decode cX9_init 56 = .ok (.iaload, 1) := by decide +kernel
theorem dX9_init_57 : decode cX9_init 57 = .ok (.invokestatic 19, 3) := by decide +kernel
theorem dX9_init_60 : decode cX9_init 60 = .ok (.aload_n 0, 1) := by decide +kernel
theorem dX9_init_61 : decode cX9_init 61 = .ok (.getfield 16, 3) := by decide +kernel
theorem dX9_init_64 : decode cX9_init 64 = .ok (.iconst 1, 1) := by decide +kernel
theorem dX9_init_65 : decode cX9_init 65 = .ok (.aaload, 1) := by decide +kernel
theorem dX9_init_66 : decode cX9_init 66 = .ok (.getstatic 25, 3) := by decide +kernel
theorem dX9_init_69 : decode cX9_init 69 = .ok (.iconst 1, 1) := by decide +kernel
theorem dX9_init_70 : decode cX9_init 70 = .ok (.iaload, 1) := by decide +kernel
theorem dX9_init_71 : decode cX9_init 71 = .ok (.invokestatic 19, 3) := by decide +kernel
theorem dX9_init_74 : decode cX9_init 74 = .ok (.return_, 1) := by decide +kernel
theorem dX9_on_0 : decode cX9_on 0 = .ok (.aload_n 0, 1) := by decide +kernel
theorem dX9_on_1 : decode cX9_on 1 = .ok (.getfield 16, 3) := by decide +kernel
theorem dX9_on_4 : decode cX9_on 4 = .ok (.iload_n 2, 1) := by decide +kernel
theorem dX9_on_5 : decode cX9_on 5 = .ok (.aaload, 1) := by decide +kernel
theorem dX9_on_6 : decode cX9_on 6 = .ok (.iload_n 1, 1) := by decide +kernel
theorem dX9_on_7 : decode cX9_on 7 = .ok (.iaload, 1) := by decide +kernel
theorem dX9_on_8 : decode cX9_on 8 = .ok (.ireturn, 1) := by decide +kernel
theorem dX9_tell_0 : decode cX9_tell 0 = .ok (.aload_n 0, 1) := by decide +kernel
theorem dX9_tell_1 : decode cX9_tell 1 = .ok (.getfield 11, 3) := by decide +kernel
theorem dX9_tell_4 : decode cX9_tell 4 = .ok (.iload_n 2, 1) := by decide +kernel
theorem dX9_tell_5 : decode cX9_tell 5 = .ok (.aaload, 1) := by decide +kernel
theorem dX9_tell_6 : decode cX9_tell 6 = .ok (.iload_n 1, 1) := by decide +kernel
theorem dX9_tell_7 : decode cX9_tell 7 = .ok (.iload_n 3, 1) := by decide +kernel
theorem dX9_tell_8 : decode cX9_tell 8 = .ok (.iastore, 1) := by decide +kernel
theorem dX9_tell_9 : decode cX9_tell 9 = .ok (.aload_n 0, 1) := by decide +kernel
theorem dX9_tell_10 : decode cX9_tell 10 = .ok (.getfield 11, 3) := by decide +kernel
theorem dX9_tell_13 : decode cX9_tell 13 = .ok (.iload_n 2, 1) := by decide +kernel
theorem dX9_tell_14 : decode cX9_tell 14 = .ok (.aaload, 1) := by decide +kernel
theorem dX9_tell_15 : decode cX9_tell 15 = .ok (.aload_n 0, 1) := by decide +kernel
theorem dX9_tell_16 : decode cX9_tell 16 = .ok (.getfield 16, 3) := by decide +kernel
theorem dX9_tell_19 : decode cX9_tell 19 = .ok (.iload_n 2, 1) := by decide +kernel
theorem dX9_tell_20 : decode cX9_tell 20 = .ok (.aaload, 1) := by decide +kernel
theorem dX9_tell_21 : decode cX9_tell 21 = .ok (.getstatic 25, 3) := by decide +kernel
theorem dX9_tell_24 : decode cX9_tell 24 = .ok (.iload_n 2, 1) := by decide +kernel
theorem dX9_tell_25 : decode cX9_tell 25 = .ok (.iaload, 1) := by decide +kernel
theorem dX9_tell_26 : decode cX9_tell 26 = .ok (.invokestatic 29, 3) := by decide +kernel
theorem dX9_tell_29 : decode cX9_tell 29 = .ok (.return_, 1) := by decide +kernel
theorem dX9_reckon_0 : decode cX9_reckon 0 = .ok (.iconst (-1), 1) := by decide +kernel
theorem dX9_reckon_1 : decode cX9_reckon 1 = .ok (.istore_n 3, 1) := by decide +kernel
theorem dX9_reckon_2 : decode cX9_reckon 2 = .ok (.iconst 0, 1) := by decide +kernel
theorem dX9_reckon_3 : decode cX9_reckon 3 = .ok (.istore 4, 2) := by decide +kernel
theorem dX9_reckon_5 : decode cX9_reckon 5 = .ok (.iload 4, 2) := by decide +kernel
theorem dX9_reckon_7 : decode cX9_reckon 7 = .ok (.bipush 101, 2) := by decide +kernel
theorem dX9_reckon_9 : decode cX9_reckon 9 = .ok (.if_icmp .ge 27, 3) := by decide +kernel
theorem dX9_reckon_12 : decode cX9_reckon 12 = .ok (.aload_n 0, 1) := by decide +kernel
theorem dX9_reckon_13 : decode cX9_reckon 13 = .ok (.iload 4, 2) := by decide +kernel
theorem dX9_reckon_15 : decode cX9_reckon 15 = .ok (.iaload, 1) := by decide +kernel
theorem dX9_reckon_16 : decode cX9_reckon 16 = .ok (.iconst (-1), 1) := by decide +kernel
theorem dX9_reckon_17 : decode cX9_reckon 17 = .ok (.if_icmp .eq 8, 3) := by decide +kernel
theorem dX9_reckon_20 : decode cX9_reckon 20 = .ok (.aload_n 0, 1) := by decide +kernel
theorem dX9_reckon_21 : decode cX9_reckon 21 = .ok (.iload 4, 2) := by decide +kernel
theorem dX9_reckon_23 : decode cX9_reckon 23 = .ok (.iaload, 1) := by decide +kernel
theorem dX9_reckon_24 : decode cX9_reckon 24 = .ok (.istore_n 3, 1) := by decide +kernel
theorem dX9_reckon_25 : decode cX9_reckon 25 = .ok (.aload_n 1, 1) := by decide +kernel
theorem dX9_reckon_26 : decode cX9_reckon 26 = .ok (.iload 4, 2) := by decide +kernel
theorem dX9_reckon_28 : decode cX9_reckon 28 = .ok (.iload_n 3, 1) := by decide +kernel
theorem dX9_reckon_29 : decode cX9_reckon 29 = .ok (.iastore, 1) := by decide +kernel
theorem dX9_reckon_30 : decode cX9_reckon 30 = .ok (.iinc 4 1, 3) := by decide +kernel
theorem dX9_reckon_33 : decode cX9_reckon 33 = .ok (.goto (-28), 3) := by decide +kernel
theorem dX9_reckon_36 : decode cX9_reckon 36 = .ok (.iconst (-1), 1) := by decide +kernel
theorem dX9_reckon_37 : decode cX9_reckon 37 = .ok (.istore 4, 2) := by decide +kernel
theorem dX9_reckon_39 : decode cX9_reckon 39 = .ok (.bipush 100, 2) := by decide +kernel
theorem dX9_reckon_41 : decode cX9_reckon 41 = .ok (.istore 5, 2) := by decide +kernel
theorem dX9_reckon_43 : decode cX9_reckon 43 = .ok (.iload 5, 2) := by decide +kernel
theorem dX9_reckon_45 : decode cX9_reckon 45 = .ok (.ifCond .lt 37, 3) := by decide +kernel
theorem dX9_reckon_48 : decode cX9_reckon 48 = .ok (.aload_n 0, 1) := by decide +kernel
theorem dX9_reckon_49 : decode cX9_reckon 49 = .ok (.iload 5, 2) := by decide +kernel
theorem dX9_reckon_51 : decode cX9_reckon 51 = .ok (.iaload, 1) := by decide +kernel
theorem dX9_reckon_52 : decode cX9_reckon 52 = .ok (.iconst (-1), 1) := by decide +kernel
theorem dX9_reckon_53 : decode cX9_reckon 53 = .ok (.if_icmp .eq 9, 3) := by decide +kernel
theorem dX9_reckon_56 : decode cX9_reckon 56 = .ok (.aload_n 0, 1) := by decide +kernel
theorem dX9_reckon_57 : decode cX9_reckon 57 = .ok (.iload 5, 2) := by decide +kernel
theorem dX9_reckon_59 : decode cX9_reckon 59 = .ok (.iaload, 1) := by decide +kernel
theorem dX9_reckon_60 : decode cX9_reckon 60 = .ok (.istore 4, 2) := by decide +kernel
theorem dX9_reckon_62 : decode cX9_reckon 62 = .ok (.aload_n 1, 1) := by decide +kernel
theorem dX9_reckon_63 : decode cX9_reckon 63 = .ok (.iload 5, 2) := by decide +kernel
theorem dX9_reckon_65 : decode cX9_reckon 65 = .ok (.aload_n 1, 1) := by decide +kernel
theorem dX9_reckon_66 : decode cX9_reckon 66 = .ok (.iload 5, 2) := by decide +kernel
theorem dX9_reckon_68 : decode cX9_reckon 68 = .ok (.iaload, 1) := by decide +kernel
theorem dX9_reckon_69 : decode cX9_reckon 69 = .ok (.iload 4, 2) := by decide +kernel
theorem dX9_reckon_71 : decode cX9_reckon 71 = .ok (.iload_n 2, 1) := by decide +kernel
theorem dX9_reckon_72 : decode cX9_reckon 72 = .ok (.invokestatic 33, 3) := by decide +kernel
theorem dX9_reckon_75 : decode cX9_reckon 75 = .ok (.iastore, 1) := by decide +kernel
theorem dX9_reckon_76 : decode cX9_reckon 76 = .ok (.iinc 5 (-1), 3) := by decide +kernel
theorem dX9_reckon_79 : decode cX9_reckon 79 = .ok (.goto (-36), 3) := by decide +kernel
theorem dX9_reckon_82 : decode cX9_reckon 82 = .ok (.return_, 1) := by decide +kernel
theorem dX9_between_0 : decode cX9_between 0 = .ok (.iload_n 0, 1) := by decide +kernel
theorem dX9_between_1 : decode cX9_between 1 = .ok (.iconst (-1), 1) := by decide +kernel
theorem dX9_between_2 : decode cX9_between 2 = .ok (.if_icmp .ne 14, 3) := by decide +kernel
theorem dX9_between_5 : decode cX9_between 5 = .ok (.iload_n 1, 1) := by decide +kernel
theorem dX9_between_6 : decode cX9_between 6 = .ok (.iconst (-1), 1) := by decide +kernel
theorem dX9_between_7 : decode cX9_between 7 = .ok (.if_icmp .ne 7, 3) := by decide +kernel
theorem dX9_between_10 : decode cX9_between 10 = .ok (.iload_n 2, 1) := by decide +kernel
theorem dX9_between_11 : decode cX9_between 11 = .ok (.goto 4, 3) := by decide +kernel
theorem dX9_between_14 : decode cX9_between 14 = .ok (.iload_n 1, 1) := by decide +kernel
theorem dX9_between_15 : decode cX9_between 15 = .ok (.ireturn, 1) := by decide +kernel
theorem dX9_between_16 : decode cX9_between 16 = .ok (.iload_n 1, 1) := by decide +kernel
theorem dX9_between_17 : decode cX9_between 17 = .ok (.iconst (-1), 1) := by decide +kernel
theorem dX9_between_18 : decode cX9_between 18 = .ok (.if_icmp .ne 7, 3) := by decide +kernel
theorem dX9_between_21 : decode cX9_between 21 = .ok (.iload_n 0, 1) := by decide +kernel
theorem dX9_between_22 : decode cX9_between 22 = .ok (.goto 8, 3) := by decide +kernel
theorem dX9_between_25 : decode cX9_between 25 = .ok (.iload_n 0, 1) := by decide +kernel
theorem dX9_between_26 : decode cX9_between 26 = .ok (.iload_n 1, 1) := by decide +kernel
theorem dX9_between_27 : decode cX9_between 27 = .ok (.iadd, 1) := by decide +kernel
theorem dX9_between_28 : decode cX9_between 28 = .ok (.iconst 2, 1) := by decide +kernel
theorem dX9_between_29 : decode cX9_between 29 = .ok (.idiv, 1) := by decide +kernel
theorem dX9_between_30 : decode cX9_between 30 = .ok (.ireturn, 1) := by decide +kernel
theorem dX10_init_0 : decode cX10_init 0 = .ok (.aload_n 0, 1) := by decide +kernel
theorem dX10_init_1 : decode cX10_init 1 = .ok (.invokespecial 3, 3) := by decide +kernel
theorem dX10_init_4 : decode cX10_init 4 = .ok (.aload_n 0, 1) := by decide +kernel
theorem dX10_init_5 : decode cX10_init 5 = .ok (.bipush 9, 2) := by decide +kernel
theorem dX10_init_7 : decode cX10_init 7 = .ok (.newarray .int, 2) := by decide +kernel
theorem dX10_init_9 : decode cX10_init 9 = .ok (.putfield 9, 3) := by decide +kernel
theorem dX10_init_12 : decode cX10_init 12 = .ok (.aload_n 0, 1) := by decide +kernel
theorem dX10_init_13 : decode cX10_init 13 = .ok (.new 15, 3) := by decide +kernel
theorem dX10_init_16 : decode cX10_init 16 = .ok (.dup, 1) := by decide +kernel
theorem dX10_init_17 : decode cX10_init 17 = .ok (.invokespecial 17, 3) := by decide +kernel
theorem dX10_init_20 : decode cX10_init 20 = .ok (.putfield 18, 3) := by decide +kernel
theorem dX10_init_23 : decode cX10_init 23 = .ok (.aload_n 0, 1) := by decide +kernel
theorem dX10_init_24 : decode cX10_init 24 = .ok (.new 22, 3) := by decide +kernel
theorem dX10_init_27 : decode cX10_init 27 = .ok (.dup, 1) := by decide +kernel
theorem dX10_init_28 : decode cX10_init 28 = .ok (.invokespecial 24, 3) := by decide +kernel
theorem dX10_init_31 : decode cX10_init 31 = .ok (.putfield 25, 3) := by decide +kernel
theorem dX10_init_34 : decode cX10_init 34 = .ok (.aload_n 0, 1) := by decide +kernel
theorem dX10_init_35 : decode cX10_init 35 = .ok (.new 29, 3) := by decide +kernel
theorem dX10_init_38 : decode cX10_init 38 = .ok (.dup, 1) := by decide +kernel
theorem dX10_init_39 : decode cX10_init 39 = .ok (.invokespecial 31, 3) := by decide +kernel
theorem dX10_init_42 : decode cX10_init 42 = .ok (.putfield 32, 3) := by decide +kernel
theorem dX10_init_45 : decode cX10_init 45 = .ok (.aload_n 0, 1) := by decide +kernel
theorem dX10_init_46 : decode cX10_init 46 = .ok (.new 36, 3) := by decide +kernel
theorem dX10_init_49 : decode cX10_init 49 = .ok (.dup, 1) := by decide +kernel
theorem dX10_init_50 : decode cX10_init 50 = .ok (.aload_n 0, 1) := by decide +kernel
theorem dX10_init_51 : decode cX10_init 51 = .ok (.getfield 9, 3) := by decide +kernel
theorem dX10_init_54 : decode cX10_init 54 = .ok (.aload_n 0, 1) := by decide +kernel
theorem dX10_init_55 : decode cX10_init 55 = .ok (.getfield 25, 3) := by decide +kernel
theorem dX10_init_58 : decode cX10_init 58 = .ok (.aload_n 0, 1) := by decide +kernel
theorem dX10_init_59 : decode cX10_init 59 = .ok (.getfield 32, 3) := by decide +kernel
theorem dX10_init_62 : decode cX10_init 62 = .ok (.invokespecial 38, 3) := by decide +kernel
theorem dX10_init_65 : decode cX10_init 65 = .ok (.putfield 41, 3) := by decide +kernel
theorem dX10_init_68 : decode cX10_init 68 = .ok (.aload_n 0, 1) := by decide +kernel
theorem dX10_init_69 : decode cX10_init 69 = .ok (.aload_n 1, 1) := by decide +kernel
theorem dX10_init_70 : decode cX10_init 70 = .ok (.putfield 45, 3) := by decide +kernel
theorem dX10_init_73 : decode cX10_init 73 = .ok (.aload_n 0, 1) := by decide +kernel
theorem dX10_init_74 : decode cX10_init 74 = .ok (.new 49, 3) := by decide +kernel
theorem dX10_init_77 : decode cX10_init 77 = .ok (.dup, 1) := by decide +kernel
theorem dX10_init_78 : decode cX10_init 78 = .ok (.aload_n 2, 1) := by decide +kernel
theorem dX10_init_79 : decode cX10_init 79 = .ok (.invokespecial 51, 3) := by decide +kernel
theorem dX10_init_82 : decode cX10_init 82 = .ok (.putfield 54, 3) := by decide +kernel
theorem dX10_init_85 : decode cX10_init 85 = .ok (.return_, 1) := by decide +kernel
theorem dX10_become_0 : decode cX10_become 0 = .ok (.aload_n 1, 1) := by decide +kernel
theorem dX10_become_1 : decode cX10_become 1 = .ok (.getfield 9, 3) := by decide +kernel
theorem dX10_become_4 : decode cX10_become 4 = .ok (.aload_n 0, 1) := by decide +kernel
theorem dX10_become_5 : decode cX10_become 5 = .ok (.getfield 9, 3) := by decide +kernel
theorem dX10_become_8 : decode cX10_become 8 = .ok (.invokestatic 58, 3) := by decide +kernel
theorem dX10_become_11 : decode cX10_become 11 = .ok (.aload_n 0, 1) := by decide +kernel
theorem dX10_become_12 : decode cX10_become 12 = .ok (.getfield 54, 3) := by decide +kernel
theorem dX10_become_15 : decode cX10_become 15 = .ok (.aload_n 1, 1) := by decide +kernel
theorem dX10_become_16 : decode cX10_become 16 = .ok (.getfield 54, 3) := by decide +kernel
theorem dX10_become_19 : decode cX10_become 19 = .ok (.invokevirtual 62, 3) := by decide +kernel
theorem dX10_become_22 : decode cX10_become 22 = .ok (.aload_n 0, 1) := by decide +kernel
theorem dX10_become_23 : decode cX10_become 23 = .ok (.getfield 18, 3) := by decide +kernel
theorem dX10_become_26 : decode cX10_become 26 = .ok (.aload_n 1, 1) := by decide +kernel
theorem dX10_become_27 : decode cX10_become 27 = .ok (.getfield 18, 3) := by decide +kernel
theorem dX10_become_30 : decode cX10_become 30 = .ok (.invokevirtual 66, 3) := by decide +kernel
theorem dX10_become_33 : decode cX10_become 33 = .ok (.aload_n 0, 1) := by decide +kernel
theorem dX10_become_34 : decode cX10_become 34 = .ok (.getfield 25, 3) := by decide +kernel
theorem dX10_become_37 : decode cX10_become 37 = .ok (.aload_n 1, 1) := by decide +kernel
theorem dX10_become_38 : decode cX10_become 38 = .ok (.getfield 25, 3) := by decide +kernel
theorem dX10_become_41 : decode cX10_become 41 = .ok (.invokevirtual 69, 3) := by decide +kernel
theorem dX10_become_44 : decode cX10_become 44 = .ok (.aload_n 0, 1) := by decide +kernel
theorem dX10_become_45 : decode cX10_become 45 = .ok (.getfield 32, 3) := by decide +kernel
theorem dX10_become_48 : decode cX10_become 48 = .ok (.aload_n 1, 1) := by decide +kernel
theorem dX10_become_49 : decode cX10_become 49 = .ok (.getfield 32, 3) := by decide +kernel
theorem dX10_become_52 : decode cX10_become 52 = .ok (.invokevirtual 72, 3) := by decide +kernel
theorem dX10_become_55 : decode cX10_become 55 = .ok (.aload_n 0, 1) := by decide +kernel
theorem dX10_become_56 : decode cX10_become 56 = .ok (.getfield 41, 3) := by decide +kernel
theorem dX10_become_59 : decode cX10_become 59 = .ok (.aload_n 1, 1) := by decide +kernel
theorem dX10_become_60 : decode cX10_become 60 = .ok (.getfield 41, 3) := by decide +kernel
theorem dX10_become_63 : decode cX10_become 63 = .ok (.invokevirtual 75, 3) := by decide +kernel
theorem dX10_become_66 : decode cX10_become 66 = .ok (.aload_n 0, 1) := by decide +kernel
theorem dX10_become_67 : decode cX10_become 67 = .ok (.aload_n 1, 1) := by decide +kernel
theorem dX10_become_68 : decode cX10_become 68 = .ok (.getfield 78, 3) := by decide +kernel
theorem dX10_become_71 : decode cX10_become 71 = .ok (.putfield 78, 3) := by decide +kernel
theorem dX10_become_74 : decode cX10_become 74 = .ok (.return_, 1) := by decide +kernel
theorem dX10_today_0 : decode cX10_today 0 = .ok (.aload_n 0, 1) := by decide +kernel
theorem dX10_today_1 : decode cX10_today 1 = .ok (.getfield 78, 3) := by decide +kernel
theorem dX10_today_4 : decode cX10_today 4 = .ok (.bipush 24, 2) := by decide +kernel
theorem dX10_today_6 : decode cX10_today 6 = .ok (.idiv, 1) := by decide +kernel
theorem dX10_today_7 : decode cX10_today 7 = .ok (.ireturn, 1) := by decide +kernel
theorem dX10_pulpOfAll_0 : decode cX10_pulpOfAll 0 = .ok (.iconst 0, 1) := by decide +kernel
theorem dX10_pulpOfAll_1 : decode cX10_pulpOfAll 1 = .ok (.istore_n 1, 1) := by decide +kernel
theorem dX10_pulpOfAll_2 : decode cX10_pulpOfAll 2 = .ok (.iconst 0, 1) := by decide +kernel
theorem dX10_pulpOfAll_3 : decode cX10_pulpOfAll 3 = .ok (.istore_n 2, 1) := by decide +kernel
theorem dX10_pulpOfAll_4 : decode cX10_pulpOfAll 4 = .ok (.iload_n 2, 1) := by decide +kernel
theorem dX10_pulpOfAll_5 : decode cX10_pulpOfAll 5 = .ok (.bipush 9, 2) := by decide +kernel
theorem dX10_pulpOfAll_7 : decode cX10_pulpOfAll 7 = .ok (.if_icmp .ge 18, 3) := by decide +kernel
theorem dX10_pulpOfAll_10 : decode cX10_pulpOfAll 10 = .ok (.iload_n 1, 1) := by decide +kernel
theorem dX10_pulpOfAll_11 : decode cX10_pulpOfAll 11 = .ok (.aload_n 0, 1) := by decide +kernel
theorem dX10_pulpOfAll_12 : decode cX10_pulpOfAll 12 = .ok (.getfield 9, 3) := by decide +kernel
theorem dX10_pulpOfAll_15 : decode cX10_pulpOfAll 15 = .ok (.iload_n 2, 1) := by decide +kernel
theorem dX10_pulpOfAll_16 : decode cX10_pulpOfAll 16 = .ok (.iaload, 1) := by decide +kernel
theorem dX10_pulpOfAll_17 : decode cX10_pulpOfAll 17 = .ok (.iadd, 1) := by decide +kernel
theorem dX10_pulpOfAll_18 : decode cX10_pulpOfAll 18 = .ok (.istore_n 1, 1) := by decide +kernel
theorem dX10_pulpOfAll_19 : decode cX10_pulpOfAll 19 = .ok (.iinc 2 1, 3) := by decide +kernel
theorem dX10_pulpOfAll_22 : decode cX10_pulpOfAll 22 = .ok (.goto (-18), 3) := by decide +kernel
theorem dX10_pulpOfAll_25 : decode cX10_pulpOfAll 25 = .ok (.iload_n 1, 1) := by decide +kernel
theorem dX10_pulpOfAll_26 : decode cX10_pulpOfAll 26 = .ok (.ireturn, 1) := by decide +kernel
theorem dX10_pass_0 : decode cX10_pass 0 = .ok (.iconst 0, 1) := by decide +kernel
theorem dX10_pass_1 : decode cX10_pass 1 = .ok (.istore_n 2, 1) := by decide +kernel
theorem dX10_pass_2 : decode cX10_pass 2 = .ok (.iload_n 2, 1) := by decide +kernel
theorem dX10_pass_3 : decode cX10_pass 3 = .ok (.iload_n 1, 1) := by decide +kernel
theorem dX10_pass_4 : decode cX10_pass 4 = .ok (.if_icmp .ge 23, 3) := by decide +kernel
theorem dX10_pass_7 : decode cX10_pass 7 = .ok (.aload_n 0, 1) := by decide +kernel
theorem dX10_pass_8 : decode cX10_pass 8 = .ok (.getfield 78, 3) := by decide +kernel
theorem dX10_pass_11 : decode cX10_pass 11 = .ok (.sipush 2400, 3) := by decide +kernel
theorem dX10_pass_14 : decode cX10_pass 14 = .ok (.if_icmp .ge 13, 3) := by decide +kernel
theorem dX10_pass_17 : decode cX10_pass 17 = .ok (.aload_n 0, 1) := by decide +kernel
theorem dX10_pass_18 : decode cX10_pass 18 = .ok (.invokevirtual 82, 3) := by decide +kernel
theorem dX10_pass_21 : decode cX10_pass 21 = .ok (.iinc 2 1, 3) := by decide +kernel
theorem dX10_pass_24 : decode cX10_pass 24 = .ok (.goto (-22), 3) := by decide +kernel
theorem dX10_pass_27 : decode cX10_pass 27 = .ok (.return_, 1) := by decide +kernel
theorem dX10_passOne_0 : decode cX10_passOne 0 = .ok (.aload_n 0, 1) := by decide +kernel
theorem dX10_passOne_1 : decode cX10_passOne 1 = .ok (.invokevirtual 85, 3) := by decide +kernel
theorem dX10_passOne_4 : decode cX10_passOne 4 = .ok (.istore_n 1, 1) := by decide +kernel
theorem dX10_passOne_5 : decode cX10_passOne 5 = .ok (.aload_n 0, 1) := by decide +kernel
theorem dX10_passOne_6 : decode cX10_passOne 6 = .ok (.getfield 45, 3) := by decide +kernel
theorem dX10_passOne_9 : decode cX10_passOne 9 = .ok (.iload_n 1, 1) := by decide +kernel
theorem dX10_passOne_10 : decode cX10_passOne 10 = .ok (.iconst 2, 1) := by decide +kernel
theorem dX10_passOne_11 : decode cX10_passOne 11 = .ok (.invokevirtual 89, 3) := by decide +kernel
theorem dX10_passOne_14 : decode cX10_passOne 14 = .ok (.iconst 1, 1) := by decide +kernel
theorem dX10_passOne_15 : decode cX10_passOne 15 = .ok (.if_icmp .ne 7, 3) := by decide +kernel
theorem dX10_passOne_18 : decode cX10_passOne 18 = .ok (.iconst 1, 1) := by decide +kernel
theorem dX10_passOne_19 : decode cX10_passOne 19 = .ok (.goto 4, 3) := by decide +kernel
theorem dX10_passOne_22 : decode cX10_passOne 22 = .ok (.iconst 0, 1) := by decide +kernel
theorem dX10_passOne_23 : decode cX10_passOne 23 = .ok (.istore_n 2, 1) := by decide +kernel
theorem dX10_passOne_24 : decode cX10_passOne 24 = .ok (.aload_n 0, 1) := by decide +kernel
theorem dX10_passOne_25 : decode cX10_passOne 25 = .ok (.dup, 1) := by decide +kernel
theorem dX10_passOne_26 : decode cX10_passOne 26 = .ok (.getfield 78, 3) := by decide +kernel
theorem dX10_passOne_29 : decode cX10_passOne 29 = .ok (.iconst 1, 1) := by decide +kernel
theorem dX10_passOne_30 : decode cX10_passOne 30 = .ok (.iadd, 1) := by decide +kernel
theorem dX10_passOne_31 : decode cX10_passOne 31 = .ok (.putfield 78, 3) := by decide +kernel
theorem dX10_passOne_34 : decode cX10_passOne 34 = .ok (.aload_n 0, 1) := by decide +kernel
theorem dX10_passOne_35 : decode cX10_passOne 35 = .ok (.getfield 18, 3) := by decide +kernel
theorem dX10_passOne_38 : decode cX10_passOne 38 = .ok (.iload_n 2, 1) := by decide +kernel
theorem dX10_passOne_39 : decode cX10_passOne 39 = .ok (.ifCond .eq 7, 3) := by decide +kernel
theorem dX10_passOne_42 : decode cX10_passOne 42 = .ok (.iconst 0, 1) := by decide +kernel
theorem dX10_passOne_43 : decode cX10_passOne 43 = .ok (.goto 12, 3) := by decide +kernel
theorem dX10_passOne_46 : decode cX10_passOne 46 = .ok (.aload_n 0, 1) := by decide +kernel
theorem dX10_passOne_47 : decode cX10_passOne 47 = .ok (.getfield 45, 3) := by decide +kernel
theorem dX10_passOne_50 : decode cX10_passOne 50 = .ok (.iload_n 1, 1) := by decide +kernel
theorem dX10_passOne_51 : decode cX10_passOne 51 = .ok (.iconst 0, 1) := by decide +kernel
theorem dX10_passOne_52 : decode cX10_passOne 52 = .ok (.invokevirtual 89, 3) := by decide +kernel
theorem dX10_passOne_55 : decode cX10_passOne 55 = .ok (.aload_n 0, 1) := by decide +kernel
theorem dX10_passOne_56 : decode cX10_passOne 56 = .ok (.getfield 9, 3) := by decide +kernel
theorem dX10_passOne_59 : decode cX10_passOne 59 = .ok (.invokevirtual 95, 3) := by decide +kernel
theorem dX10_passOne_62 : decode cX10_passOne 62 = .ok (.istore_n 3, 1) := by decide +kernel
theorem dX10_passOne_63 : decode cX10_passOne 63 = .ok (.aload_n 0, 1) := by decide +kernel
theorem dX10_passOne_64 : decode cX10_passOne 64 = .ok (.getfield 41, 3) := by decide +kernel
theorem dX10_passOne_67 : decode cX10_passOne 67 = .ok (.iload_n 3, 1) := by decide +kernel
theorem dX10_passOne_68 : decode cX10_passOne 68 = .ok (.aload_n 0, 1) := by decide +kernel
theorem dX10_passOne_69 : decode cX10_passOne 69 = .ok (.getfield 78, 3) := by decide +kernel
theorem dX10_passOne_72 : decode cX10_passOne 72 = .ok (.invokevirtual 99, 3) := by decide +kernel
theorem dX10_passOne_75 : decode cX10_passOne 75 = .ok (.aload_n 0, 1) := by decide +kernel
theorem dX10_passOne_76 : decode cX10_passOne 76 = .ok (.getfield 32, 3) := by decide +kernel
theorem dX10_passOne_79 : decode cX10_passOne 79 = .ok (.aload_n 0, 1) := by decide +kernel
theorem dX10_passOne_80 : decode cX10_passOne 80 = .ok (.getfield 78, 3) := by decide +kernel
theorem dX10_passOne_83 : decode cX10_passOne 83 = .ok (.invokevirtual 102, 3) := by decide +kernel
theorem dX10_passOne_86 : decode cX10_passOne 86 = .ok (.aload_n 0, 1) := by decide +kernel
theorem dX10_passOne_87 : decode cX10_passOne 87 = .ok (.getfield 32, 3) := by decide +kernel
theorem dX10_passOne_90 : decode cX10_passOne 90 = .ok (.iload_n 2, 1) := by decide +kernel
theorem dX10_passOne_91 : decode cX10_passOne 91 = .ok (.ifCond .eq 7, 3) := by decide +kernel
theorem dX10_passOne_94 : decode cX10_passOne 94 = .ok (.iconst 0, 1) := by decide +kernel
theorem dX10_passOne_95 : decode cX10_passOne 95 = .ok (.goto 12, 3) := by decide +kernel
theorem dX10_passOne_98 : decode cX10_passOne 98 = .ok (.aload_n 0, 1) := by decide +kernel
theorem dX10_passOne_99 : decode cX10_passOne 99 = .ok (.getfield 45, 3) := by decide +kernel
theorem dX10_passOne_102 : decode cX10_passOne 102 = .ok (.iload_n 1, 1) := by decide +kernel
theorem dX10_passOne_103 : decode cX10_passOne 103 = .ok (.iconst 1, 1) := by decide +kernel
theorem dX10_passOne_104 : decode cX10_passOne 104 = .ok (.invokevirtual 89, 3) := by decide +kernel
theorem dX10_passOne_107 : decode cX10_passOne 107 = .ok (.aload_n 0, 1) := by decide +kernel
theorem dX10_passOne_108 : decode cX10_passOne 108 = .ok (.getfield 78, 3) := by decide +kernel
theorem dX10_passOne_111 : decode cX10_passOne 111 = .ok (.invokevirtual 106, 3) := by decide +kernel
theorem dX10_passOne_114 : decode cX10_passOne 114 = .ok (.aload_n 0, 1) := by decide +kernel
theorem dX10_passOne_115 : decode cX10_passOne 115 = .ok (.getfield 54, 3) := by decide +kernel
theorem dX10_passOne_118 : decode cX10_passOne 118 = .ok (.aload_n 0, 1) := by decide +kernel
theorem dX10_passOne_119 : decode cX10_passOne 119 = .ok (.getfield 78, 3) := by decide +kernel
theorem dX10_passOne_122 : decode cX10_passOne 122 = .ok (.invokevirtual 109, 3) := by decide +kernel
theorem dX10_passOne_125 : decode cX10_passOne 125 = .ok (.return_, 1) := by decide +kernel
theorem dX11_init_0 : decode cX11_init 0 = .ok (.aload_n 0, 1) := by decide +kernel
theorem dX11_init_1 : decode cX11_init 1 = .ok (.invokespecial 1, 3) := by decide +kernel
theorem dX11_init_4 : decode cX11_init 4 = .ok (.aload_n 0, 1) := by decide +kernel
theorem dX11_init_5 : decode cX11_init 5 = .ok (.new 7, 3) := by decide +kernel
theorem dX11_init_8 : decode cX11_init 8 = .ok (.dup, 1) := by decide +kernel
theorem dX11_init_9 : decode cX11_init 9 = .ok (.invokespecial 9, 3) := by decide +kernel
theorem dX11_init_12 : decode cX11_init 12 = .ok (.putfield 10, 3) := by decide +kernel
theorem dX11_init_15 : decode cX11_init 15 = .ok (.aload_n 0, 1) := by decide +kernel
theorem dX11_init_16 : decode cX11_init 16 = .ok (.new 16, 3) := by decide +kernel
theorem dX11_init_19 : decode cX11_init 19 = .ok (.dup, 1) := by decide +kernel
theorem dX11_init_20 : decode cX11_init 20 = .ok (.invokespecial 18, 3) := by decide +kernel
theorem dX11_init_23 : decode cX11_init 23 = .ok (.putfield 19, 3) := by decide +kernel
theorem dX11_init_26 : decode cX11_init 26 = .ok (.aload_n 0, 1) := by decide +kernel
theorem dX11_init_27 : decode cX11_init 27 = .ok (.new 23, 3) := by decide +kernel
theorem dX11_init_30 : decode cX11_init 30 = .ok (.dup, 1) := by decide +kernel
theorem dX11_init_31 : decode cX11_init 31 = .ok (.aload_n 0, 1) := by decide +kernel
theorem dX11_init_32 : decode cX11_init 32 = .ok (.getfield 10, 3) := by decide +kernel
theorem dX11_init_35 : decode cX11_init 35 = .ok (.aload_n 0, 1) := by decide +kernel
theorem dX11_init_36 : decode cX11_init 36 = .ok (.getfield 19, 3) := by decide +kernel
theorem dX11_init_39 : decode cX11_init 39 = .ok (.invokespecial 25, 3) := by decide +kernel
theorem dX11_init_42 : decode cX11_init 42 = .ok (.putfield 28, 3) := by decide +kernel
theorem dX11_init_45 : decode cX11_init 45 = .ok (.aload_n 0, 1) := by decide +kernel
theorem dX11_init_46 : decode cX11_init 46 = .ok (.new 23, 3) := by decide +kernel
theorem dX11_init_49 : decode cX11_init 49 = .ok (.dup, 1) := by decide +kernel
theorem dX11_init_50 : decode cX11_init 50 = .ok (.aload_n 0, 1) := by decide +kernel
theorem dX11_init_51 : decode cX11_init 51 = .ok (.getfield 10, 3) := by decide +kernel
theorem dX11_init_54 : decode cX11_init 54 = .ok (.aload_n 0, 1) := by decide +kernel
theorem dX11_init_55 : decode cX11_init 55 = .ok (.getfield 19, 3) := by decide +kernel
theorem dX11_init_58 : decode cX11_init 58 = .ok (.invokespecial 25, 3) := by decide +kernel
theorem dX11_init_61 : decode cX11_init 61 = .ok (.putfield 32, 3) := by decide +kernel
theorem dX11_init_64 : decode cX11_init 64 = .ok (.aload_n 0, 1) := by decide +kernel
theorem dX11_init_65 : decode cX11_init 65 = .ok (.new 35, 3) := by decide +kernel
theorem dX11_init_68 : decode cX11_init 68 = .ok (.dup, 1) := by decide +kernel
theorem dX11_init_69 : decode cX11_init 69 = .ok (.invokespecial 37, 3) := by decide +kernel
theorem dX11_init_72 : decode cX11_init 72 = .ok (.putfield 38, 3) := by decide +kernel
theorem dX11_init_75 : decode cX11_init 75 = .ok (.aload_n 0, 1) := by decide +kernel
theorem dX11_init_76 : decode cX11_init 76 = .ok (.new 42, 3) := by decide +kernel
theorem dX11_init_79 : decode cX11_init 79 = .ok (.dup, 1) := by decide +kernel
theorem dX11_init_80 : decode cX11_init 80 = .ok (.aload_n 0, 1) := by decide +kernel
theorem dX11_init_81 : decode cX11_init 81 = .ok (.getfield 28, 3) := by decide +kernel
theorem dX11_init_84 : decode cX11_init 84 = .ok (.getfield 44, 3) := by decide +kernel
theorem dX11_init_87 : decode cX11_init 87 = .ok (.invokespecial 48, 3) := by decide +kernel
theorem dX11_init_90 : decode cX11_init 90 = .ok (.putfield 51, 3) := by decide +kernel
theorem dX11_init_93 : decode cX11_init 93 = .ok (.aload_n 0, 1) := by decide +kernel
theorem dX11_init_94 : decode cX11_init 94 = .ok (.bipush 9, 2) := by decide +kernel
theorem dX11_init_96 : decode cX11_init 96 = .ok (.newarray .int, 2) := by decide +kernel
theorem dX11_init_98 : decode cX11_init 98 = .ok (.putfield 55, 3) := by decide +kernel
theorem dX11_init_101 : decode cX11_init 101 = .ok (.aload_n 0, 1) := by decide +kernel
theorem dX11_init_102 : decode cX11_init 102 = .ok (.bipush 81, 2) := by decide +kernel
theorem dX11_init_104 : decode cX11_init 104 = .ok (.newarray .int, 2) := by decide +kernel
theorem dX11_init_106 : decode cX11_init 106 = .ok (.putfield 59, 3) := by decide +kernel
theorem dX11_init_109 : decode cX11_init 109 = .ok (.aload_n 0, 1) := by decide +kernel
theorem dX11_init_110 : decode cX11_init 110 = .ok (.bipush 7, 2) := by decide +kernel
theorem dX11_init_112 : decode cX11_init 112 = .ok (.newarray .int, 2) := by decide +kernel
theorem dX11_init_114 : decode cX11_init 114 = .ok (.putfield 62, 3) := by decide +kernel
theorem dX11_init_117 : decode cX11_init 117 = .ok (.return_, 1) := by decide +kernel
theorem dX11_day_0 : decode cX11_day 0 = .ok (.iload_n 1, 1) := by decide +kernel
theorem dX11_day_1 : decode cX11_day 1 = .ok (.bipush 101, 2) := by decide +kernel
theorem dX11_day_3 : decode cX11_day 3 = .ok (.invokestatic 65, 3) := by decide +kernel
theorem dX11_day_6 : decode cX11_day 6 = .ok (.ifCond .ne 9, 3) := by decide +kernel
theorem dX11_day_9 : decode cX11_day 9 = .ok (.aload_n 0, 1) := by decide +kernel
theorem dX11_day_10 : decode cX11_day 10 = .ok (.iconst (-1), 1) := by decide +kernel
theorem dX11_day_11 : decode cX11_day 11 = .ok (.invokevirtual 69, 3) := by decide +kernel
theorem dX11_day_14 : decode cX11_day 14 = .ok (.ireturn, 1) := by decide +kernel
theorem dX11_day_15 : decode cX11_day 15 = .ok (.iload_n 2, 1) := by decide +kernel
theorem dX11_day_16 : decode cX11_day 16 = .ok (.iconst 3, 1) := by decide +kernel
theorem dX11_day_17 : decode cX11_day 17 = .ok (.invokestatic 65, 3) := by decide +kernel
theorem dX11_day_20 : decode cX11_day 20 = .ok (.ifCond .ne 10, 3) := by decide +kernel
theorem dX11_day_23 : decode cX11_day 23 = .ok (.aload_n 0, 1) := by decide +kernel
theorem dX11_day_24 : decode cX11_day 24 = .ok (.bipush (-2), 2) := by decide +kernel
theorem dX11_day_26 : decode cX11_day 26 = .ok (.invokevirtual 69, 3) := by decide +kernel
theorem dX11_day_29 : decode cX11_day 29 = .ok (.ireturn, 1) := by decide +kernel
theorem dX11_day_30 : decode cX11_day 30 = .ok (.iload_n 3, 1) := by decide +kernel
theorem dX11_day_31 : decode cX11_day 31 = .ok (.getstatic 73, 3) := by decide +kernel
theorem dX11_day_34 : decode cX11_day 34 = .ok (.iload_n 2, 1) := by decide +kernel
theorem dX11_day_35 : decode cX11_day 35 = .ok (.iaload, 1) := by decide +kernel
theorem dX11_day_36 : decode cX11_day 36 = .ok (.if_icmp .ge 10, 3) := by decide +kernel
theorem dX11_day_39 : decode cX11_day 39 = .ok (.aload_n 0, 1) := by decide +kernel
theorem dX11_day_40 : decode cX11_day 40 = .ok (.bipush (-4), 2) := by decide +kernel
theorem dX11_day_42 : decode cX11_day 42 = .ok (.invokevirtual 69, 3) := by decide +kernel
theorem dX11_day_45 : decode cX11_day 45 = .ok (.ireturn, 1) := by decide +kernel
theorem dX11_day_46 : decode cX11_day 46 = .ok (.iload_n 3, 1) := by decide +kernel
theorem dX11_day_47 : decode cX11_day 47 = .ok (.getstatic 76, 3) := by decide +kernel
theorem dX11_day_50 : decode cX11_day 50 = .ok (.iload_n 2, 1) := by decide +kernel
theorem dX11_day_51 : decode cX11_day 51 = .ok (.iaload, 1) := by decide +kernel
theorem dX11_day_52 : decode cX11_day 52 = .ok (.if_icmp .le 10, 3) := by decide +kernel
theorem dX11_day_55 : decode cX11_day 55 = .ok (.aload_n 0, 1) := by decide +kernel
theorem dX11_day_56 : decode cX11_day 56 = .ok (.bipush (-6), 2) := by decide +kernel
theorem dX11_day_58 : decode cX11_day 58 = .ok (.invokevirtual 69, 3) := by decide +kernel
theorem dX11_day_61 : decode cX11_day 61 = .ok (.ireturn, 1) := by decide +kernel
theorem dX11_day_62 : decode cX11_day 62 = .ok (.aload_n 0, 1) := by decide +kernel
theorem dX11_day_63 : decode cX11_day 63 = .ok (.getfield 10, 3) := by decide +kernel
theorem dX11_day_66 : decode cX11_day 66 = .ok (.iload_n 1, 1) := by decide +kernel
theorem dX11_day_67 : decode cX11_day 67 = .ok (.iload_n 2, 1) := by decide +kernel
theorem dX11_day_68 : decode cX11_day 68 = .ok (.invokevirtual 79, 3) := by decide +kernel
theorem dX11_day_71 : decode cX11_day 71 = .ok (.istore 4, 2) := by decide +kernel
theorem dX11_day_73 : decode cX11_day 73 = .ok (.aload_n 0, 1) := by decide +kernel
theorem dX11_day_74 : decode cX11_day 74 = .ok (.getfield 10, 3) := by decide +kernel
theorem dX11_day_77 : decode cX11_day 77 = .ok (.iload_n 1, 1) := by decide +kernel
theorem dX11_day_78 : decode cX11_day 78 = .ok (.iload_n 2, 1) := by decide +kernel
theorem dX11_day_79 : decode cX11_day 79 = .ok (.iload_n 3, 1) := by decide +kernel
theorem dX11_day_80 : decode cX11_day 80 = .ok (.invokevirtual 83, 3) := by decide +kernel
theorem dX11_day_83 : decode cX11_day 83 = .ok (.iload 4, 2) := by decide +kernel
theorem dX11_day_85 : decode cX11_day 85 = .ok (.ireturn, 1) := by decide +kernel
theorem dX11_dayOf_0 : decode cX11_dayOf 0 = .ok (.iload_n 1, 1) := by decide +kernel
theorem dX11_dayOf_1 : decode cX11_dayOf 1 = .ok (.bipush 101, 2) := by decide +kernel
theorem dX11_dayOf_3 : decode cX11_dayOf 3 = .ok (.invokestatic 65, 3) := by decide +kernel
theorem dX11_dayOf_6 : decode cX11_dayOf 6 = .ok (.ifCond .ne 9, 3) := by decide +kernel
theorem dX11_dayOf_9 : decode cX11_dayOf 9 = .ok (.aload_n 0, 1) := by decide +kernel
theorem dX11_dayOf_10 : decode cX11_dayOf 10 = .ok (.iconst (-1), 1) := by decide +kernel
theorem dX11_dayOf_11 : decode cX11_dayOf 11 = .ok (.invokevirtual 69, 3) := by decide +kernel
theorem dX11_dayOf_14 : decode cX11_dayOf 14 = .ok (.ireturn, 1) := by decide +kernel
theorem dX11_dayOf_15 : decode cX11_dayOf 15 = .ok (.iload_n 2, 1) := by decide +kernel
theorem dX11_dayOf_16 : decode cX11_dayOf 16 = .ok (.iconst 3, 1) := by decide +kernel
theorem dX11_dayOf_17 : decode cX11_dayOf 17 = .ok (.invokestatic 65, 3) := by decide +kernel
theorem dX11_dayOf_20 : decode cX11_dayOf 20 = .ok (.ifCond .ne 10, 3) := by decide +kernel
theorem dX11_dayOf_23 : decode cX11_dayOf 23 = .ok (.aload_n 0, 1) := by decide +kernel
theorem dX11_dayOf_24 : decode cX11_dayOf 24 = .ok (.bipush (-2), 2) := by decide +kernel
theorem dX11_dayOf_26 : decode cX11_dayOf 26 = .ok (.invokevirtual 69, 3) := by decide +kernel
theorem dX11_dayOf_29 : decode cX11_dayOf 29 = .ok (.ireturn, 1) := by decide +kernel
theorem dX11_dayOf_30 : decode cX11_dayOf 30 = .ok (.aload_n 0, 1) := by decide +kernel
theorem dX11_dayOf_31 : decode cX11_dayOf 31 = .ok (.getfield 10, 3) := by decide +kernel
theorem dX11_dayOf_34 : decode cX11_dayOf 34 = .ok (.iload_n 1, 1) := by decide +kernel
theorem dX11_dayOf_35 : decode cX11_dayOf 35 = .ok (.iload_n 2, 1) := by decide +kernel
theorem dX11_dayOf_36 : decode cX11_dayOf 36 = .ok (.invokevirtual 79, 3) := by decide +kernel
theorem dX11_dayOf_39 : decode cX11_dayOf 39 = .ok (.ireturn, 1) := by decide +kernel
theorem dX11_kind_0 : decode cX11_kind 0 = .ok (.iload_n 1, 1) := by decide +kernel
theorem dX11_kind_1 : decode cX11_kind 1 = .ok (.bipush 9, 2) := by decide +kernel
theorem dX11_kind_3 : decode cX11_kind 3 = .ok (.invokestatic 65, 3) := by decide +kernel
theorem dX11_kind_6 : decode cX11_kind 6 = .ok (.ifCond .ne 9, 3) := by decide +kernel
theorem dX11_kind_9 : decode cX11_kind 9 = .ok (.aload_n 0, 1) := by decide +kernel
theorem dX11_kind_10 : decode cX11_kind 10 = .ok (.iconst (-1), 1) := by decide +kernel
theorem dX11_kind_11 : decode cX11_kind 11 = .ok (.invokevirtual 69, 3) := by decide +kernel
theorem dX11_kind_14 : decode cX11_kind 14 = .ok (.ireturn, 1) := by decide +kernel
theorem dX11_kind_15 : decode cX11_kind 15 = .ok (.iload_n 2, 1) := by decide +kernel
theorem dX11_kind_16 : decode cX11_kind 16 = .ok (.ifCond .lt 14, 3) := by decide +kernel
theorem dX11_kind_19 : decode cX11_kind 19 = .ok (.iload_n 3, 1) := by decide +kernel
theorem dX11_kind_20 : decode cX11_kind 20 = .ok (.iconst 1, 1) := by decide +kernel
theorem dX11_kind_21 : decode cX11_kind 21 = .ok (.if_icmp .lt 9, 3) := by decide +kernel
theorem dX11_kind_24 : decode cX11_kind 24 = .ok (.iload 4, 2) := by decide +kernel
theorem dX11_kind_26 : decode cX11_kind 26 = .ok (.iconst 1, 1) := by decide +kernel
theorem dX11_kind_27 : decode cX11_kind 27 = .ok (.if_icmp .ge 10, 3) := by decide +kernel
theorem dX11_kind_30 : decode cX11_kind 30 = .ok (.aload_n 0, 1) := by decide +kernel
theorem dX11_kind_31 : decode cX11_kind 31 = .ok (.bipush (-4), 2) := by decide +kernel
theorem dX11_kind_33 : decode cX11_kind 33 = .ok (.invokevirtual 69, 3) := by decide +kernel
theorem dX11_kind_36 : decode cX11_kind 36 = .ok (.ireturn, 1) := by decide +kernel
theorem dX11_kind_37 : decode cX11_kind 37 = .ok (.iload_n 2, 1) := by decide +kernel
theorem dX11_kind_38 : decode cX11_kind 38 = .ok (.bipush 20, 2) := by decide +kernel
theorem dX11_kind_40 : decode cX11_kind 40 = .ok (.if_icmp .gt 16, 3) := by decide +kernel
theorem dX11_kind_43 : decode cX11_kind 43 = .ok (.iload_n 3, 1) := by decide +kernel
theorem dX11_kind_44 : decode cX11_kind 44 = .ok (.bipush 40, 2) := by decide +kernel
theorem dX11_kind_46 : decode cX11_kind 46 = .ok (.if_icmp .gt 10, 3) := by decide +kernel
theorem dX11_kind_49 : decode cX11_kind 49 = .ok (.iload 4, 2) := by decide +kernel
theorem dX11_kind_51 : decode cX11_kind 51 = .ok (.bipush 30, 2) := by decide +kernel
theorem dX11_kind_53 : decode cX11_kind 53 = .ok (.if_icmp .le 10, 3) := by decide +kernel
theorem dX11_kind_56 : decode cX11_kind 56 = .ok (.aload_n 0, 1) := by decide +kernel
theorem dX11_kind_57 : decode cX11_kind 57 = .ok (.bipush (-6), 2) := by decide +kernel
theorem dX11_kind_59 : decode cX11_kind 59 = .ok (.invokevirtual 69, 3) := by decide +kernel
theorem dX11_kind_62 : decode cX11_kind 62 = .ok (.ireturn, 1) := by decide +kernel
theorem dX11_kind_63 : decode cX11_kind 63 = .ok (.aload_n 0, 1) := by decide +kernel
theorem dX11_kind_64 : decode cX11_kind 64 = .ok (.getfield 19, 3) := by decide +kernel
theorem dX11_kind_67 : decode cX11_kind 67 = .ok (.getfield 87, 3) := by decide +kernel
theorem dX11_kind_70 : decode cX11_kind 70 = .ok (.iload_n 1, 1) := by decide +kernel
theorem dX11_kind_71 : decode cX11_kind 71 = .ok (.iload_n 2, 1) := by decide +kernel
theorem dX11_kind_72 : decode cX11_kind 72 = .ok (.iastore, 1) := by decide +kernel
theorem dX11_kind_73 : decode cX11_kind 73 = .ok (.aload_n 0, 1) := by decide +kernel
theorem dX11_kind_74 : decode cX11_kind 74 = .ok (.getfield 19, 3) := by decide +kernel
theorem dX11_kind_77 : decode cX11_kind 77 = .ok (.getfield 90, 3) := by decide +kernel
theorem dX11_kind_80 : decode cX11_kind 80 = .ok (.iload_n 1, 1) := by decide +kernel
theorem dX11_kind_81 : decode cX11_kind 81 = .ok (.iload_n 3, 1) := by decide +kernel
theorem dX11_kind_82 : decode cX11_kind 82 = .ok (.iastore, 1) := by decide +kernel
theorem dX11_kind_83 : decode cX11_kind 83 = .ok (.aload_n 0, 1) := by decide +kernel
theorem dX11_kind_84 : decode cX11_kind 84 = .ok (.getfield 19, 3) := by decide +kernel
theorem dX11_kind_87 : decode cX11_kind 87 = .ok (.getfield 93, 3) := by decide +kernel
theorem dX11_kind_90 : decode cX11_kind 90 = .ok (.iload_n 1, 1) := by decide +kernel
theorem dX11_kind_91 : decode cX11_kind 91 = .ok (.iload 4, 2) := by decide +kernel
theorem dX11_kind_93 : decode cX11_kind 93 = .ok (.iastore, 1) := by decide +kernel
theorem dX11_kind_94 : decode cX11_kind 94 = .ok (.iconst 1, 1) := by decide +kernel
theorem dX11_kind_95 : decode cX11_kind 95 = .ok (.ireturn, 1) := by decide +kernel
theorem dX11_rags_0 : decode cX11_rags 0 = .ok (.iload_n 1, 1) := by decide +kernel
theorem dX11_rags_1 : decode cX11_rags 1 = .ok (.bipush 9, 2) := by decide +kernel
theorem dX11_rags_3 : decode cX11_rags 3 = .ok (.invokestatic 65, 3) := by decide +kernel
theorem dX11_rags_6 : decode cX11_rags 6 = .ok (.ifCond .ne 9, 3) := by decide +kernel
theorem dX11_rags_9 : decode cX11_rags 9 = .ok (.aload_n 0, 1) := by decide +kernel
theorem dX11_rags_10 : decode cX11_rags 10 = .ok (.iconst (-1), 1) := by decide +kernel
theorem dX11_rags_11 : decode cX11_rags 11 = .ok (.invokevirtual 69, 3) := by decide +kernel
theorem dX11_rags_14 : decode cX11_rags 14 = .ok (.ireturn, 1) := by decide +kernel
theorem dX11_rags_15 : decode cX11_rags 15 = .ok (.iload_n 2, 1) := by decide +kernel
theorem dX11_rags_16 : decode cX11_rags 16 = .ok (.iconst 1, 1) := by decide +kernel
theorem dX11_rags_17 : decode cX11_rags 17 = .ok (.if_icmp .ge 10, 3) := by decide +kernel
theorem dX11_rags_20 : decode cX11_rags 20 = .ok (.aload_n 0, 1) := by decide +kernel
theorem dX11_rags_21 : decode cX11_rags 21 = .ok (.bipush (-4), 2) := by decide +kernel
theorem dX11_rags_23 : decode cX11_rags 23 = .ok (.invokevirtual 69, 3) := by decide +kernel
theorem dX11_rags_26 : decode cX11_rags 26 = .ok (.ireturn, 1) := by decide +kernel
theorem dX11_rags_27 : decode cX11_rags 27 = .ok (.iload_n 2, 1) := by decide +kernel
theorem dX11_rags_28 : decode cX11_rags 28 = .ok (.sipush 20000, 3) := by decide +kernel
theorem dX11_rags_31 : decode cX11_rags 31 = .ok (.aload_n 0, 1) := by decide +kernel
theorem dX11_rags_32 : decode cX11_rags 32 = .ok (.getfield 19, 3) := by decide +kernel
theorem dX11_rags_35 : decode cX11_rags 35 = .ok (.getfield 96, 3) := by decide +kernel
theorem dX11_rags_38 : decode cX11_rags 38 = .ok (.iload_n 1, 1) := by decide +kernel
theorem dX11_rags_39 : decode cX11_rags 39 = .ok (.iaload, 1) := by decide +kernel
theorem dX11_rags_40 : decode cX11_rags 40 = .ok (.isub, 1) := by decide +kernel
theorem dX11_rags_41 : decode cX11_rags 41 = .ok (.if_icmp .le 10, 3) := by decide +kernel
theorem dX11_rags_44 : decode cX11_rags 44 = .ok (.aload_n 0, 1) := by decide +kernel
theorem dX11_rags_45 : decode cX11_rags 45 = .ok (.bipush (-6), 2) := by decide +kernel
theorem dX11_rags_47 : decode cX11_rags 47 = .ok (.invokevirtual 69, 3) := by decide +kernel
theorem dX11_rags_50 : decode cX11_rags 50 = .ok (.ireturn, 1) := by decide +kernel
theorem dX11_rags_51 : decode cX11_rags 51 = .ok (.aload_n 0, 1) := by decide +kernel
theorem dX11_rags_52 : decode cX11_rags 52 = .ok (.getfield 19, 3) := by decide +kernel
theorem dX11_rags_55 : decode cX11_rags 55 = .ok (.getfield 96, 3) := by decide +kernel
theorem dX11_rags_58 : decode cX11_rags 58 = .ok (.iload_n 1, 1) := by decide +kernel
theorem dX11_rags_59 : decode cX11_rags 59 = .ok (.dup2, 1) := by decide +kernel
theorem dX11_rags_60 : decode cX11_rags 60 = .ok (.iaload, 1) := by decide +kernel
theorem dX11_rags_61 : decode cX11_rags 61 = .ok (.iload_n 2, 1) := by decide +kernel
theorem dX11_rags_62 : decode cX11_rags 62 = .ok (.iadd, 1) := by decide +kernel
theorem dX11_rags_63 : decode cX11_rags 63 = .ok (.iastore, 1) := by decide +kernel
theorem dX11_rags_64 : decode cX11_rags 64 = .ok (.aload_n 0, 1) := by decide +kernel
theorem dX11_rags_65 : decode cX11_rags 65 = .ok (.getfield 19, 3) := by decide +kernel
theorem dX11_rags_68 : decode cX11_rags 68 = .ok (.getfield 96, 3) := by decide +kernel
theorem dX11_rags_71 : decode cX11_rags 71 = .ok (.iload_n 1, 1) := by decide +kernel
theorem dX11_rags_72 : decode cX11_rags 72 = .ok (.iaload, 1) := by decide +kernel
theorem dX11_rags_73 : decode cX11_rags 73 = .ok (.ireturn, 1) := by decide +kernel
theorem dX11_heap_0 : decode cX11_heap 0 = .ok (.iload_n 1, 1) := by decide +kernel
theorem dX11_heap_1 : decode cX11_heap 1 = .ok (.bipush 9, 2) := by decide +kernel
theorem dX11_heap_3 : decode cX11_heap 3 = .ok (.invokestatic 65, 3) := by decide +kernel
theorem dX11_heap_6 : decode cX11_heap 6 = .ok (.ifCond .ne 9, 3) := by decide +kernel
theorem dX11_heap_9 : decode cX11_heap 9 = .ok (.aload_n 0, 1) := by decide +kernel
theorem dX11_heap_10 : decode cX11_heap 10 = .ok (.iconst (-1), 1) := by decide +kernel
theorem dX11_heap_11 : decode cX11_heap 11 = .ok (.invokevirtual 69, 3) := by decide +kernel
theorem dX11_heap_14 : decode cX11_heap 14 = .ok (.ireturn, 1) := by decide +kernel
theorem dX11_heap_15 : decode cX11_heap 15 = .ok (.iload_n 2, 1) := by decide +kernel
theorem dX11_heap_16 : decode cX11_heap 16 = .ok (.iconst 1, 1) := by decide +kernel
theorem dX11_heap_17 : decode cX11_heap 17 = .ok (.if_icmp .ge 10, 3) := by decide +kernel
theorem dX11_heap_20 : decode cX11_heap 20 = .ok (.aload_n 0, 1) := by decide +kernel
theorem dX11_heap_21 : decode cX11_heap 21 = .ok (.bipush (-4), 2) := by decide +kernel
theorem dX11_heap_23 : decode cX11_heap 23 = .ok (.invokevirtual 69, 3) := by decide +kernel
theorem dX11_heap_26 : decode cX11_heap 26 = .ok (.ireturn, 1) := by decide +kernel
theorem dX11_heap_27 : decode cX11_heap 27 = .ok (.iload_n 2, 1) := by decide +kernel
theorem dX11_heap_28 : decode cX11_heap 28 = .ok (.sipush 400, 3) := by decide +kernel
theorem dX11_heap_31 : decode cX11_heap 31 = .ok (.if_icmp .gt 31, 3) := by decide +kernel
theorem dX11_heap_34 : decode cX11_heap 34 = .ok (.iload_n 2, 1) := by decide +kernel
theorem dX11_heap_35 : decode cX11_heap 35 = .ok (.aload_n 0, 1) := by decide +kernel
theorem dX11_heap_36 : decode cX11_heap 36 = .ok (.getfield 19, 3) := by decide +kernel
theorem dX11_heap_39 : decode cX11_heap 39 = .ok (.getfield 96, 3) := by decide +kernel
theorem dX11_heap_42 : decode cX11_heap 42 = .ok (.iload_n 1, 1) := by decide +kernel
theorem dX11_heap_43 : decode cX11_heap 43 = .ok (.iaload, 1) := by decide +kernel
theorem dX11_heap_44 : decode cX11_heap 44 = .ok (.if_icmp .gt 18, 3) := by decide +kernel
theorem dX11_heap_47 : decode cX11_heap 47 = .ok (.aload_n 0, 1) := by decide +kernel
theorem dX11_heap_48 : decode cX11_heap 48 = .ok (.getfield 28, 3) := by decide +kernel
theorem dX11_heap_51 : decode cX11_heap 51 = .ok (.getfield 99, 3) := by decide +kernel
theorem dX11_heap_54 : decode cX11_heap 54 = .ok (.getfield 103, 3) := by decide +kernel
theorem dX11_heap_57 : decode cX11_heap 57 = .ok (.bipush 40, 2) := by decide +kernel
theorem dX11_heap_59 : decode cX11_heap 59 = .ok (.if_icmp .ne 10, 3) := by decide +kernel
theorem dX11_heap_62 : decode cX11_heap 62 = .ok (.aload_n 0, 1) := by decide +kernel
theorem dX11_heap_63 : decode cX11_heap 63 = .ok (.bipush (-6), 2) := by decide +kernel
theorem dX11_heap_65 : decode cX11_heap 65 = .ok (.invokevirtual 69, 3) := by decide +kernel
theorem dX11_heap_68 : decode cX11_heap 68 = .ok (.ireturn, 1) := by decide +kernel
theorem dX11_heap_69 : decode cX11_heap 69 = .ok (.aload_n 0, 1) := by decide +kernel
theorem dX11_heap_70 : decode cX11_heap 70 = .ok (.getfield 19, 3) := by decide +kernel
theorem dX11_heap_73 : decode cX11_heap 73 = .ok (.getfield 96, 3) := by decide +kernel
theorem dX11_heap_76 : decode cX11_heap 76 = .ok (.iload_n 1, 1) := by decide +kernel
theorem dX11_heap_77 : decode cX11_heap 77 = .ok (.dup2, 1) := by decide +kernel
theorem dX11_heap_78 : decode cX11_heap 78 = .ok (.iaload, 1) := by decide +kernel
theorem dX11_heap_79 : decode cX11_heap 79 = .ok (.iload_n 2, 1) := by decide +kernel
theorem dX11_heap_80 : decode cX11_heap 80 = .ok (.isub, 1) := by decide +kernel
theorem dX11_heap_81 : decode cX11_heap 81 = .ok (.iastore, 1) := by decide +kernel
theorem dX11_heap_82 : decode cX11_heap 82 = .ok (.aload_n 0, 1) := by decide +kernel
theorem dX11_heap_83 : decode cX11_heap 83 = .ok (.getfield 28, 3) := by decide +kernel
theorem dX11_heap_86 : decode cX11_heap 86 = .ok (.getfield 99, 3) := by decide +kernel
theorem dX11_heap_89 : decode cX11_heap 89 = .ok (.iload_n 1, 1) := by decide +kernel
theorem dX11_heap_90 : decode cX11_heap 90 = .ok (.iload_n 2, 1) := by decide +kernel
theorem dX11_heap_91 : decode cX11_heap 91 = .ok (.aload_n 0, 1) := by decide +kernel
theorem dX11_heap_92 : decode cX11_heap 92 = .ok (.getfield 28, 3) := by decide +kernel
theorem dX11_heap_95 : decode cX11_heap 95 = .ok (.getfield 109, 3) := by decide +kernel
theorem dX11_heap_98 : decode cX11_heap 98 = .ok (.invokevirtual 112, 3) := by decide +kernel
theorem dX11_heap_101 : decode cX11_heap 101 = .ok (.ireturn, 1) := by decide +kernel
theorem dX11_load_0 : decode cX11_load 0 = .ok (.iload_n 1, 1) := by decide +kernel
theorem dX11_load_1 : decode cX11_load 1 = .ok (.iconst 4, 1) := by decide +kernel
theorem dX11_load_2 : decode cX11_load 2 = .ok (.invokestatic 65, 3) := by decide +kernel
theorem dX11_load_5 : decode cX11_load 5 = .ok (.ifCond .eq 20, 3) := by decide +kernel
theorem dX11_load_8 : decode cX11_load 8 = .ok (.iload_n 2, 1) := by decide +kernel
theorem dX11_load_9 : decode cX11_load 9 = .ok (.aload_n 0, 1) := by decide +kernel
theorem dX11_load_10 : decode cX11_load 10 = .ok (.getfield 28, 3) := by decide +kernel
theorem dX11_load_13 : decode cX11_load 13 = .ok (.getfield 99, 3) := by decide +kernel
theorem dX11_load_16 : decode cX11_load 16 = .ok (.getfield 103, 3) := by decide +kernel
theorem dX11_load_19 : decode cX11_load 19 = .ok (.invokestatic 65, 3) := by decide +kernel
theorem dX11_load_22 : decode cX11_load 22 = .ok (.ifCond .ne 9, 3) := by decide +kernel
theorem dX11_load_25 : decode cX11_load 25 = .ok (.aload_n 0, 1) := by decide +kernel
theorem dX11_load_26 : decode cX11_load 26 = .ok (.iconst (-1), 1) := by decide +kernel
theorem dX11_load_27 : decode cX11_load 27 = .ok (.invokevirtual 69, 3) := by decide +kernel
theorem dX11_load_30 : decode cX11_load 30 = .ok (.ireturn, 1) := by decide +kernel
theorem dX11_load_31 : decode cX11_load 31 = .ok (.aload_n 0, 1) := by decide +kernel
theorem dX11_load_32 : decode cX11_load 32 = .ok (.getfield 28, 3) := by decide +kernel
theorem dX11_load_35 : decode cX11_load 35 = .ok (.getfield 116, 3) := by decide +kernel
theorem dX11_load_38 : decode cX11_load 38 = .ok (.iload_n 1, 1) := by decide +kernel
theorem dX11_load_39 : decode cX11_load 39 = .ok (.invokevirtual 120, 3) := by decide +kernel
theorem dX11_load_42 : decode cX11_load 42 = .ok (.ifCond .eq 24, 3) := by decide +kernel
theorem dX11_load_45 : decode cX11_load 45 = .ok (.aload_n 0, 1) := by decide +kernel
theorem dX11_load_46 : decode cX11_load 46 = .ok (.getfield 28, 3) := by decide +kernel
theorem dX11_load_49 : decode cX11_load 49 = .ok (.getfield 99, 3) := by decide +kernel
theorem dX11_load_52 : decode cX11_load 52 = .ok (.iload_n 2, 1) := by decide +kernel
theorem dX11_load_53 : decode cX11_load 53 = .ok (.aload_n 0, 1) := by decide +kernel
theorem dX11_load_54 : decode cX11_load 54 = .ok (.getfield 28, 3) := by decide +kernel
theorem dX11_load_57 : decode cX11_load 57 = .ok (.getfield 109, 3) := by decide +kernel
theorem dX11_load_60 : decode cX11_load 60 = .ok (.invokevirtual 126, 3) := by decide +kernel
theorem dX11_load_63 : decode cX11_load 63 = .ok (.ifCond .ne 10, 3) := by decide +kernel
theorem dX11_load_66 : decode cX11_load 66 = .ok (.aload_n 0, 1) := by decide +kernel
theorem dX11_load_67 : decode cX11_load 67 = .ok (.bipush (-3), 2) := by decide +kernel
theorem dX11_load_69 : decode cX11_load 69 = .ok (.invokevirtual 69, 3) := by decide +kernel
theorem dX11_load_72 : decode cX11_load 72 = .ok (.ireturn, 1) := by decide +kernel
theorem dX11_load_73 : decode cX11_load 73 = .ok (.iload_n 3, 1) := by decide +kernel
theorem dX11_load_74 : decode cX11_load 74 = .ok (.iconst 1, 1) := by decide +kernel
theorem dX11_load_75 : decode cX11_load 75 = .ok (.if_icmp .ge 10, 3) := by decide +kernel
theorem dX11_load_78 : decode cX11_load 78 = .ok (.aload_n 0, 1) := by decide +kernel
theorem dX11_load_79 : decode cX11_load 79 = .ok (.bipush (-4), 2) := by decide +kernel
theorem dX11_load_81 : decode cX11_load 81 = .ok (.invokevirtual 69, 3) := by decide +kernel
theorem dX11_load_84 : decode cX11_load 84 = .ok (.ireturn, 1) := by decide +kernel
theorem dX11_load_85 : decode cX11_load 85 = .ok (.iload_n 3, 1) := by decide +kernel
theorem dX11_load_86 : decode cX11_load 86 = .ok (.bipush 100, 2) := by decide +kernel
theorem dX11_load_88 : decode cX11_load 88 = .ok (.if_icmp .gt 19, 3) := by decide +kernel
theorem dX11_load_91 : decode cX11_load 91 = .ok (.iload_n 3, 1) := by decide +kernel
theorem dX11_load_92 : decode cX11_load 92 = .ok (.aload_n 0, 1) := by decide +kernel
theorem dX11_load_93 : decode cX11_load 93 = .ok (.getfield 28, 3) := by decide +kernel
theorem dX11_load_96 : decode cX11_load 96 = .ok (.getfield 99, 3) := by decide +kernel
theorem dX11_load_99 : decode cX11_load 99 = .ok (.getfield 129, 3) := by decide +kernel
theorem dX11_load_102 : decode cX11_load 102 = .ok (.iload_n 2, 1) := by decide +kernel
theorem dX11_load_103 : decode cX11_load 103 = .ok (.iaload, 1) := by decide +kernel
theorem dX11_load_104 : decode cX11_load 104 = .ok (.if_icmp .le 10, 3) := by decide +kernel
theorem dX11_load_107 : decode cX11_load 107 = .ok (.aload_n 0, 1) := by decide +kernel
theorem dX11_load_108 : decode cX11_load 108 = .ok (.bipush (-6), 2) := by decide +kernel
theorem dX11_load_110 : decode cX11_load 110 = .ok (.invokevirtual 69, 3) := by decide +kernel
theorem dX11_load_113 : decode cX11_load 113 = .ok (.ireturn, 1) := by decide +kernel
theorem dX11_load_114 : decode cX11_load 114 = .ok (.aload_n 0, 1) := by decide +kernel
theorem dX11_load_115 : decode cX11_load 115 = .ok (.getfield 28, 3) := by decide +kernel
theorem dX11_load_118 : decode cX11_load 118 = .ok (.getfield 99, 3) := by decide +kernel
theorem dX11_load_121 : decode cX11_load 121 = .ok (.getfield 132, 3) := by decide +kernel
theorem dX11_load_124 : decode cX11_load 124 = .ok (.iload_n 2, 1) := by decide +kernel
theorem dX11_load_125 : decode cX11_load 125 = .ok (.iaload, 1) := by decide +kernel
theorem dX11_load_126 : decode cX11_load 126 = .ok (.istore 4, 2) := by decide +kernel
theorem dX11_load_128 : decode cX11_load 128 = .ok (.aload_n 0, 1) := by decide +kernel
theorem dX11_load_129 : decode cX11_load 129 = .ok (.getfield 28, 3) := by decide +kernel
theorem dX11_load_132 : decode cX11_load 132 = .ok (.getfield 99, 3) := by decide +kernel
theorem dX11_load_135 : decode cX11_load 135 = .ok (.getfield 129, 3) := by decide +kernel
theorem dX11_load_138 : decode cX11_load 138 = .ok (.iload_n 2, 1) := by decide +kernel
theorem dX11_load_139 : decode cX11_load 139 = .ok (.dup2, 1) := by decide +kernel
theorem dX11_load_140 : decode cX11_load 140 = .ok (.iaload, 1) := by decide +kernel
theorem dX11_load_141 : decode cX11_load 141 = .ok (.iload_n 3, 1) := by decide +kernel
theorem dX11_load_142 : decode cX11_load 142 = .ok (.isub, 1) := by decide +kernel
theorem dX11_load_143 : decode cX11_load 143 = .ok (.iastore, 1) := by decide +kernel
theorem dX11_load_144 : decode cX11_load 144 = .ok (.aload_n 0, 1) := by decide +kernel
theorem dX11_load_145 : decode cX11_load 145 = .ok (.getfield 28, 3) := by decide +kernel
theorem dX11_load_148 : decode cX11_load 148 = .ok (.getfield 116, 3) := by decide +kernel
theorem dX11_load_151 : decode cX11_load 151 = .ok (.iload_n 1, 1) := by decide +kernel
theorem dX11_load_152 : decode cX11_load 152 = .ok (.iload 4, 2) := by decide +kernel
theorem dX11_load_154 : decode cX11_load 154 = .ok (.iload_n 3, 1) := by decide +kernel
theorem dX11_load_155 : decode cX11_load 155 = .ok (.aload_n 0, 1) := by decide +kernel
theorem dX11_load_156 : decode cX11_load 156 = .ok (.getfield 19, 3) := by decide +kernel
theorem dX11_load_159 : decode cX11_load 159 = .ok (.getfield 93, 3) := by decide +kernel
theorem dX11_load_162 : decode cX11_load 162 = .ok (.iload 4, 2) := by decide +kernel
theorem dX11_load_164 : decode cX11_load 164 = .ok (.iaload, 1) := by decide +kernel
theorem dX11_load_165 : decode cX11_load 165 = .ok (.invokevirtual 135, 3) := by decide +kernel
theorem dX11_load_168 : decode cX11_load 168 = .ok (.aload_n 0, 1) := by decide +kernel
theorem dX11_load_169 : decode cX11_load 169 = .ok (.getfield 19, 3) := by decide +kernel
theorem dX11_load_172 : decode cX11_load 172 = .ok (.getfield 93, 3) := by decide +kernel
theorem dX11_load_175 : decode cX11_load 175 = .ok (.iload 4, 2) := by decide +kernel
theorem dX11_load_177 : decode cX11_load 177 = .ok (.iaload, 1) := by decide +kernel
theorem dX11_load_178 : decode cX11_load 178 = .ok (.ireturn, 1) := by decide +kernel
theorem dX11_pair_0 : decode cX11_pair 0 = .ok (.iload_n 1, 1) := by decide +kernel
theorem dX11_pair_1 : decode cX11_pair 1 = .ok (.invokestatic 139, 3) := by decide +kernel
theorem dX11_pair_4 : decode cX11_pair 4 = .ok (.ifCond .ne 9, 3) := by decide +kernel
theorem dX11_pair_7 : decode cX11_pair 7 = .ok (.aload_n 0, 1) := by decide +kernel
theorem dX11_pair_8 : decode cX11_pair 8 = .ok (.iconst (-1), 1) := by decide +kernel
theorem dX11_pair_9 : decode cX11_pair 9 = .ok (.invokevirtual 69, 3) := by decide +kernel
theorem dX11_pair_12 : decode cX11_pair 12 = .ok (.ireturn, 1) := by decide +kernel
theorem dX11_pair_13 : decode cX11_pair 13 = .ok (.aload_n 0, 1) := by decide +kernel
theorem dX11_pair_14 : decode cX11_pair 14 = .ok (.getfield 28, 3) := by decide +kernel
theorem dX11_pair_17 : decode cX11_pair 17 = .ok (.getfield 142, 3) := by decide +kernel
theorem dX11_pair_20 : decode cX11_pair 20 = .ok (.getfield 146, 3) := by decide +kernel
theorem dX11_pair_23 : decode cX11_pair 23 = .ok (.iconst 4, 1) := by decide +kernel
theorem dX11_pair_24 : decode cX11_pair 24 = .ok (.if_icmp .ne 10, 3) := by decide +kernel
theorem dX11_pair_27 : decode cX11_pair 27 = .ok (.aload_n 0, 1) := by decide +kernel
theorem dX11_pair_28 : decode cX11_pair 28 = .ok (.bipush (-6), 2) := by decide +kernel
theorem dX11_pair_30 : decode cX11_pair 30 = .ok (.invokevirtual 69, 3) := by decide +kernel
theorem dX11_pair_33 : decode cX11_pair 33 = .ok (.ireturn, 1) := by decide +kernel
theorem dX11_pair_34 : decode cX11_pair 34 = .ok (.aload_n 0, 1) := by decide +kernel
theorem dX11_pair_35 : decode cX11_pair 35 = .ok (.getfield 28, 3) := by decide +kernel
theorem dX11_pair_38 : decode cX11_pair 38 = .ok (.getfield 142, 3) := by decide +kernel
theorem dX11_pair_41 : decode cX11_pair 41 = .ok (.iload_n 1, 1) := by decide +kernel
theorem dX11_pair_42 : decode cX11_pair 42 = .ok (.invokevirtual 151, 3) := by decide +kernel
theorem dX11_pair_45 : decode cX11_pair 45 = .ok (.ireturn, 1) := by decide +kernel
theorem dX11_wire_0 : decode cX11_wire 0 = .ok (.aload_n 0, 1) := by decide +kernel
theorem dX11_wire_1 : decode cX11_wire 1 = .ok (.iload_n 1, 1) := by decide +kernel
theorem dX11_wire_2 : decode cX11_wire 2 = .ok (.invokevirtual 154, 3) := by decide +kernel
theorem dX11_wire_5 : decode cX11_wire 5 = .ok (.ifCond .eq 12, 3) := by decide +kernel
theorem dX11_wire_8 : decode cX11_wire 8 = .ok (.iload_n 2, 1) := by decide +kernel
end
section
theorem dX11_wire_9 : decode cX11_wire 9 = .ok (.bipush 6, 2) := by decide +kernel
theorem dX11_wire_11 : decode cX11_wire 11 = .ok (.invokestatic 65, 3) := by decide +kernel
theorem dX11_wire_14 : decode cX11_wire 14 = .ok (.ifCond .ne 9, 3) := by decide +kernel
theorem dX11_wire_17 : decode cX11_wire 17 = .ok (.aload_n 0, 1) := by decide +kernel
theorem dX11_wire_18 : decode cX11_wire 18 = .ok (.iconst (-1), 1) := by decide +kernel
theorem dX11_wire_19 : decode cX11_wire 19 = .ok (.invokevirtual 69, 3) := by decide +kernel
theorem dX11_wire_22 : decode cX11_wire 22 = .ok (.ireturn, 1) := by decide +kernel
theorem dX11_wire_23 : decode cX11_wire 23 = .ok (.aload_n 0, 1) := by decide +kernel
theorem dX11_wire_24 : decode cX11_wire 24 = .ok (.getfield 28, 3) := by decide +kernel
theorem dX11_wire_27 : decode cX11_wire 27 = .ok (.getfield 157, 3) := by decide +kernel
theorem dX11_wire_30 : decode cX11_wire 30 = .ok (.iload_n 1, 1) := by decide +kernel
theorem dX11_wire_31 : decode cX11_wire 31 = .ok (.iconst 2, 1) := by decide +kernel
theorem dX11_wire_32 : decode cX11_wire 32 = .ok (.idiv, 1) := by decide +kernel
theorem dX11_wire_33 : decode cX11_wire 33 = .ok (.invokevirtual 161, 3) := by decide +kernel
theorem dX11_wire_36 : decode cX11_wire 36 = .ok (.ifCond .eq 10, 3) := by decide +kernel
theorem dX11_wire_39 : decode cX11_wire 39 = .ok (.aload_n 0, 1) := by decide +kernel
theorem dX11_wire_40 : decode cX11_wire 40 = .ok (.bipush (-3), 2) := by decide +kernel
theorem dX11_wire_42 : decode cX11_wire 42 = .ok (.invokevirtual 69, 3) := by decide +kernel
theorem dX11_wire_45 : decode cX11_wire 45 = .ok (.ireturn, 1) := by decide +kernel
theorem dX11_wire_46 : decode cX11_wire 46 = .ok (.iload_n 3, 1) := by decide +kernel
theorem dX11_wire_47 : decode cX11_wire 47 = .ok (.ifCond .ge 10, 3) := by decide +kernel
theorem dX11_wire_50 : decode cX11_wire 50 = .ok (.aload_n 0, 1) := by decide +kernel
theorem dX11_wire_51 : decode cX11_wire 51 = .ok (.bipush (-4), 2) := by decide +kernel
theorem dX11_wire_53 : decode cX11_wire 53 = .ok (.invokevirtual 69, 3) := by decide +kernel
theorem dX11_wire_56 : decode cX11_wire 56 = .ok (.ireturn, 1) := by decide +kernel
theorem dX11_wire_57 : decode cX11_wire 57 = .ok (.iload_n 3, 1) := by decide +kernel
theorem dX11_wire_58 : decode cX11_wire 58 = .ok (.bipush 99, 2) := by decide +kernel
theorem dX11_wire_60 : decode cX11_wire 60 = .ok (.if_icmp .le 10, 3) := by decide +kernel
theorem dX11_wire_63 : decode cX11_wire 63 = .ok (.aload_n 0, 1) := by decide +kernel
theorem dX11_wire_64 : decode cX11_wire 64 = .ok (.bipush (-6), 2) := by decide +kernel
theorem dX11_wire_66 : decode cX11_wire 66 = .ok (.invokevirtual 69, 3) := by decide +kernel
theorem dX11_wire_69 : decode cX11_wire 69 = .ok (.ireturn, 1) := by decide +kernel
theorem dX11_wire_70 : decode cX11_wire 70 = .ok (.aload_n 0, 1) := by decide +kernel
theorem dX11_wire_71 : decode cX11_wire 71 = .ok (.getfield 28, 3) := by decide +kernel
theorem dX11_wire_74 : decode cX11_wire 74 = .ok (.getfield 142, 3) := by decide +kernel
theorem dX11_wire_77 : decode cX11_wire 77 = .ok (.iload_n 1, 1) := by decide +kernel
theorem dX11_wire_78 : decode cX11_wire 78 = .ok (.iload_n 2, 1) := by decide +kernel
theorem dX11_wire_79 : decode cX11_wire 79 = .ok (.invokevirtual 166, 3) := by decide +kernel
theorem dX11_wire_82 : decode cX11_wire 82 = .ok (.istore 4, 2) := by decide +kernel
theorem dX11_wire_84 : decode cX11_wire 84 = .ok (.aload_n 0, 1) := by decide +kernel
theorem dX11_wire_85 : decode cX11_wire 85 = .ok (.getfield 28, 3) := by decide +kernel
theorem dX11_wire_88 : decode cX11_wire 88 = .ok (.getfield 142, 3) := by decide +kernel
theorem dX11_wire_91 : decode cX11_wire 91 = .ok (.iload_n 1, 1) := by decide +kernel
theorem dX11_wire_92 : decode cX11_wire 92 = .ok (.iload_n 2, 1) := by decide +kernel
theorem dX11_wire_93 : decode cX11_wire 93 = .ok (.iload_n 3, 1) := by decide +kernel
theorem dX11_wire_94 : decode cX11_wire 94 = .ok (.invokevirtual 169, 3) := by decide +kernel
theorem dX11_wire_97 : decode cX11_wire 97 = .ok (.iload 4, 2) := by decide +kernel
theorem dX11_wire_99 : decode cX11_wire 99 = .ok (.ireturn, 1) := by decide +kernel
theorem dX11_mouldOf_0 : decode cX11_mouldOf 0 = .ok (.aload_n 0, 1) := by decide +kernel
theorem dX11_mouldOf_1 : decode cX11_mouldOf 1 = .ok (.iload_n 1, 1) := by decide +kernel
theorem dX11_mouldOf_2 : decode cX11_mouldOf 2 = .ok (.invokevirtual 154, 3) := by decide +kernel
theorem dX11_mouldOf_5 : decode cX11_mouldOf 5 = .ok (.ifCond .ne 9, 3) := by decide +kernel
theorem dX11_mouldOf_8 : decode cX11_mouldOf 8 = .ok (.aload_n 0, 1) := by decide +kernel
theorem dX11_mouldOf_9 : decode cX11_mouldOf 9 = .ok (.iconst (-1), 1) := by decide +kernel
theorem dX11_mouldOf_10 : decode cX11_mouldOf 10 = .ok (.invokevirtual 69, 3) := by decide +kernel
theorem dX11_mouldOf_13 : decode cX11_mouldOf 13 = .ok (.ireturn, 1) := by decide +kernel
theorem dX11_mouldOf_14 : decode cX11_mouldOf 14 = .ok (.iload_n 2, 1) := by decide +kernel
theorem dX11_mouldOf_15 : decode cX11_mouldOf 15 = .ok (.bipush 7, 2) := by decide +kernel
theorem dX11_mouldOf_17 : decode cX11_mouldOf 17 = .ok (.invokestatic 65, 3) := by decide +kernel
theorem dX11_mouldOf_20 : decode cX11_mouldOf 20 = .ok (.ifCond .ne 10, 3) := by decide +kernel
theorem dX11_mouldOf_23 : decode cX11_mouldOf 23 = .ok (.aload_n 0, 1) := by decide +kernel
theorem dX11_mouldOf_24 : decode cX11_mouldOf 24 = .ok (.bipush (-2), 2) := by decide +kernel
theorem dX11_mouldOf_26 : decode cX11_mouldOf 26 = .ok (.invokevirtual 69, 3) := by decide +kernel
theorem dX11_mouldOf_29 : decode cX11_mouldOf 29 = .ok (.ireturn, 1) := by decide +kernel
theorem dX11_mouldOf_30 : decode cX11_mouldOf 30 = .ok (.iload_n 2, 1) := by decide +kernel
theorem dX11_mouldOf_31 : decode cX11_mouldOf 31 = .ok (.bipush 6, 2) := by decide +kernel
theorem dX11_mouldOf_33 : decode cX11_mouldOf 33 = .ok (.if_icmp .ne 18, 3) := by decide +kernel
theorem dX11_mouldOf_36 : decode cX11_mouldOf 36 = .ok (.aload_n 0, 1) := by decide +kernel
theorem dX11_mouldOf_37 : decode cX11_mouldOf 37 = .ok (.getfield 28, 3) := by decide +kernel
theorem dX11_mouldOf_40 : decode cX11_mouldOf 40 = .ok (.getfield 142, 3) := by decide +kernel
theorem dX11_mouldOf_43 : decode cX11_mouldOf 43 = .ok (.getfield 172, 3) := by decide +kernel
theorem dX11_mouldOf_46 : decode cX11_mouldOf 46 = .ok (.iload_n 1, 1) := by decide +kernel
theorem dX11_mouldOf_47 : decode cX11_mouldOf 47 = .ok (.iaload, 1) := by decide +kernel
theorem dX11_mouldOf_48 : decode cX11_mouldOf 48 = .ok (.goto 15, 3) := by decide +kernel
theorem dX11_mouldOf_51 : decode cX11_mouldOf 51 = .ok (.aload_n 0, 1) := by decide +kernel
theorem dX11_mouldOf_52 : decode cX11_mouldOf 52 = .ok (.getfield 28, 3) := by decide +kernel
theorem dX11_mouldOf_55 : decode cX11_mouldOf 55 = .ok (.getfield 142, 3) := by decide +kernel
theorem dX11_mouldOf_58 : decode cX11_mouldOf 58 = .ok (.iload_n 1, 1) := by decide +kernel
theorem dX11_mouldOf_59 : decode cX11_mouldOf 59 = .ok (.iload_n 2, 1) := by decide +kernel
theorem dX11_mouldOf_60 : decode cX11_mouldOf 60 = .ok (.invokevirtual 166, 3) := by decide +kernel
theorem dX11_mouldOf_63 : decode cX11_mouldOf 63 = .ok (.ireturn, 1) := by decide +kernel
theorem dX11_vat_0 : decode cX11_vat 0 = .ok (.iload_n 1, 1) := by decide +kernel
theorem dX11_vat_1 : decode cX11_vat 1 = .ok (.iconst 3, 1) := by decide +kernel
theorem dX11_vat_2 : decode cX11_vat 2 = .ok (.invokestatic 65, 3) := by decide +kernel
theorem dX11_vat_5 : decode cX11_vat 5 = .ok (.ifCond .eq 25, 3) := by decide +kernel
theorem dX11_vat_8 : decode cX11_vat 8 = .ok (.iload_n 2, 1) := by decide +kernel
theorem dX11_vat_9 : decode cX11_vat 9 = .ok (.iconst (-1), 1) := by decide +kernel
theorem dX11_vat_10 : decode cX11_vat 10 = .ok (.if_icmp .eq 26, 3) := by decide +kernel
theorem dX11_vat_13 : decode cX11_vat 13 = .ok (.iload_n 2, 1) := by decide +kernel
theorem dX11_vat_14 : decode cX11_vat 14 = .ok (.aload_n 0, 1) := by decide +kernel
theorem dX11_vat_15 : decode cX11_vat 15 = .ok (.getfield 28, 3) := by decide +kernel
theorem dX11_vat_18 : decode cX11_vat 18 = .ok (.getfield 142, 3) := by decide +kernel
theorem dX11_vat_21 : decode cX11_vat 21 = .ok (.getfield 146, 3) := by decide +kernel
theorem dX11_vat_24 : decode cX11_vat 24 = .ok (.invokestatic 65, 3) := by decide +kernel
theorem dX11_vat_27 : decode cX11_vat 27 = .ok (.ifCond .ne 9, 3) := by decide +kernel
theorem dX11_vat_30 : decode cX11_vat 30 = .ok (.aload_n 0, 1) := by decide +kernel
theorem dX11_vat_31 : decode cX11_vat 31 = .ok (.iconst (-1), 1) := by decide +kernel
theorem dX11_vat_32 : decode cX11_vat 32 = .ok (.invokevirtual 69, 3) := by decide +kernel
theorem dX11_vat_35 : decode cX11_vat 35 = .ok (.ireturn, 1) := by decide +kernel
theorem dX11_vat_36 : decode cX11_vat 36 = .ok (.aload_n 0, 1) := by decide +kernel
theorem dX11_vat_37 : decode cX11_vat 37 = .ok (.getfield 28, 3) := by decide +kernel
theorem dX11_vat_40 : decode cX11_vat 40 = .ok (.getfield 157, 3) := by decide +kernel
theorem dX11_vat_43 : decode cX11_vat 43 = .ok (.getfield 175, 3) := by decide +kernel
theorem dX11_vat_46 : decode cX11_vat 46 = .ok (.iload_n 1, 1) := by decide +kernel
theorem dX11_vat_47 : decode cX11_vat 47 = .ok (.iaload, 1) := by decide +kernel
theorem dX11_vat_48 : decode cX11_vat 48 = .ok (.ifCond .gt 18, 3) := by decide +kernel
theorem dX11_vat_51 : decode cX11_vat 51 = .ok (.aload_n 0, 1) := by decide +kernel
theorem dX11_vat_52 : decode cX11_vat 52 = .ok (.getfield 28, 3) := by decide +kernel
theorem dX11_vat_55 : decode cX11_vat 55 = .ok (.getfield 157, 3) := by decide +kernel
theorem dX11_vat_58 : decode cX11_vat 58 = .ok (.iload_n 1, 1) := by decide +kernel
theorem dX11_vat_59 : decode cX11_vat 59 = .ok (.iload_n 2, 1) := by decide +kernel
theorem dX11_vat_60 : decode cX11_vat 60 = .ok (.invokevirtual 178, 3) := by decide +kernel
theorem dX11_vat_63 : decode cX11_vat 63 = .ok (.ifCond .eq 10, 3) := by decide +kernel
theorem dX11_vat_66 : decode cX11_vat 66 = .ok (.aload_n 0, 1) := by decide +kernel
theorem dX11_vat_67 : decode cX11_vat 67 = .ok (.bipush (-3), 2) := by decide +kernel
theorem dX11_vat_69 : decode cX11_vat 69 = .ok (.invokevirtual 69, 3) := by decide +kernel
theorem dX11_vat_72 : decode cX11_vat 72 = .ok (.ireturn, 1) := by decide +kernel
theorem dX11_vat_73 : decode cX11_vat 73 = .ok (.aload_n 0, 1) := by decide +kernel
theorem dX11_vat_74 : decode cX11_vat 74 = .ok (.getfield 28, 3) := by decide +kernel
theorem dX11_vat_77 : decode cX11_vat 77 = .ok (.getfield 157, 3) := by decide +kernel
theorem dX11_vat_80 : decode cX11_vat 80 = .ok (.getfield 181, 3) := by decide +kernel
theorem dX11_vat_83 : decode cX11_vat 83 = .ok (.iload_n 1, 1) := by decide +kernel
theorem dX11_vat_84 : decode cX11_vat 84 = .ok (.iload_n 2, 1) := by decide +kernel
theorem dX11_vat_85 : decode cX11_vat 85 = .ok (.iconst (-1), 1) := by decide +kernel
theorem dX11_vat_86 : decode cX11_vat 86 = .ok (.if_icmp .ne 8, 3) := by decide +kernel
theorem dX11_vat_89 : decode cX11_vat 89 = .ok (.bipush (-9), 2) := by decide +kernel
theorem dX11_vat_91 : decode cX11_vat 91 = .ok (.goto 4, 3) := by decide +kernel
theorem dX11_vat_94 : decode cX11_vat 94 = .ok (.iload_n 2, 1) := by decide +kernel
theorem dX11_vat_95 : decode cX11_vat 95 = .ok (.iastore, 1) := by decide +kernel
theorem dX11_vat_96 : decode cX11_vat 96 = .ok (.iconst 1, 1) := by decide +kernel
theorem dX11_vat_97 : decode cX11_vat 97 = .ok (.ireturn, 1) := by decide +kernel
theorem dX11_furnish_0 : decode cX11_furnish 0 = .ok (.iload_n 1, 1) := by decide +kernel
theorem dX11_furnish_1 : decode cX11_furnish 1 = .ok (.iconst 3, 1) := by decide +kernel
theorem dX11_furnish_2 : decode cX11_furnish 2 = .ok (.invokestatic 65, 3) := by decide +kernel
theorem dX11_furnish_5 : decode cX11_furnish 5 = .ok (.ifCond .eq 12, 3) := by decide +kernel
theorem dX11_furnish_8 : decode cX11_furnish 8 = .ok (.iload_n 2, 1) := by decide +kernel
theorem dX11_furnish_9 : decode cX11_furnish 9 = .ok (.bipush 9, 2) := by decide +kernel
theorem dX11_furnish_11 : decode cX11_furnish 11 = .ok (.invokestatic 65, 3) := by decide +kernel
theorem dX11_furnish_14 : decode cX11_furnish 14 = .ok (.ifCond .ne 9, 3) := by decide +kernel
theorem dX11_furnish_17 : decode cX11_furnish 17 = .ok (.aload_n 0, 1) := by decide +kernel
theorem dX11_furnish_18 : decode cX11_furnish 18 = .ok (.iconst (-1), 1) := by decide +kernel
theorem dX11_furnish_19 : decode cX11_furnish 19 = .ok (.invokevirtual 69, 3) := by decide +kernel
theorem dX11_furnish_22 : decode cX11_furnish 22 = .ok (.ireturn, 1) := by decide +kernel
theorem dX11_furnish_23 : decode cX11_furnish 23 = .ok (.aload_n 0, 1) := by decide +kernel
theorem dX11_furnish_24 : decode cX11_furnish 24 = .ok (.getfield 28, 3) := by decide +kernel
theorem dX11_furnish_27 : decode cX11_furnish 27 = .ok (.getfield 157, 3) := by decide +kernel
theorem dX11_furnish_30 : decode cX11_furnish 30 = .ok (.getfield 184, 3) := by decide +kernel
theorem dX11_furnish_33 : decode cX11_furnish 33 = .ok (.iload_n 1, 1) := by decide +kernel
theorem dX11_furnish_34 : decode cX11_furnish 34 = .ok (.iaload, 1) := by decide +kernel
theorem dX11_furnish_35 : decode cX11_furnish 35 = .ok (.istore_n 3, 1) := by decide +kernel
theorem dX11_furnish_36 : decode cX11_furnish 36 = .ok (.aload_n 0, 1) := by decide +kernel
theorem dX11_furnish_37 : decode cX11_furnish 37 = .ok (.getfield 28, 3) := by decide +kernel
theorem dX11_furnish_40 : decode cX11_furnish 40 = .ok (.getfield 157, 3) := by decide +kernel
theorem dX11_furnish_43 : decode cX11_furnish 43 = .ok (.getfield 184, 3) := by decide +kernel
theorem dX11_furnish_46 : decode cX11_furnish 46 = .ok (.iload_n 1, 1) := by decide +kernel
theorem dX11_furnish_47 : decode cX11_furnish 47 = .ok (.iload_n 2, 1) := by decide +kernel
theorem dX11_furnish_48 : decode cX11_furnish 48 = .ok (.iastore, 1) := by decide +kernel
theorem dX11_furnish_49 : decode cX11_furnish 49 = .ok (.iload_n 3, 1) := by decide +kernel
theorem dX11_furnish_50 : decode cX11_furnish 50 = .ok (.ireturn, 1) := by decide +kernel
theorem dX11_loft_0 : decode cX11_loft 0 = .ok (.iload_n 1, 1) := by decide +kernel
theorem dX11_loft_1 : decode cX11_loft 1 = .ok (.ifCond .ge 10, 3) := by decide +kernel
theorem dX11_loft_4 : decode cX11_loft 4 = .ok (.aload_n 0, 1) := by decide +kernel
theorem dX11_loft_5 : decode cX11_loft 5 = .ok (.bipush (-4), 2) := by decide +kernel
theorem dX11_loft_7 : decode cX11_loft 7 = .ok (.invokevirtual 69, 3) := by decide +kernel
theorem dX11_loft_10 : decode cX11_loft 10 = .ok (.ireturn, 1) := by decide +kernel
theorem dX11_loft_11 : decode cX11_loft 11 = .ok (.iload_n 1, 1) := by decide +kernel
theorem dX11_loft_12 : decode cX11_loft 12 = .ok (.bipush 40, 2) := by decide +kernel
theorem dX11_loft_14 : decode cX11_loft 14 = .ok (.if_icmp .le 10, 3) := by decide +kernel
theorem dX11_loft_17 : decode cX11_loft 17 = .ok (.aload_n 0, 1) := by decide +kernel
theorem dX11_loft_18 : decode cX11_loft 18 = .ok (.bipush (-6), 2) := by decide +kernel
theorem dX11_loft_20 : decode cX11_loft 20 = .ok (.invokevirtual 69, 3) := by decide +kernel
theorem dX11_loft_23 : decode cX11_loft 23 = .ok (.ireturn, 1) := by decide +kernel
theorem dX11_loft_24 : decode cX11_loft 24 = .ok (.aload_n 0, 1) := by decide +kernel
theorem dX11_loft_25 : decode cX11_loft 25 = .ok (.getfield 28, 3) := by decide +kernel
theorem dX11_loft_28 : decode cX11_loft 28 = .ok (.getfield 44, 3) := by decide +kernel
theorem dX11_loft_31 : decode cX11_loft 31 = .ok (.getfield 185, 3) := by decide +kernel
theorem dX11_loft_34 : decode cX11_loft 34 = .ok (.istore_n 2, 1) := by decide +kernel
theorem dX11_loft_35 : decode cX11_loft 35 = .ok (.aload_n 0, 1) := by decide +kernel
theorem dX11_loft_36 : decode cX11_loft 36 = .ok (.getfield 28, 3) := by decide +kernel
theorem dX11_loft_39 : decode cX11_loft 39 = .ok (.getfield 44, 3) := by decide +kernel
theorem dX11_loft_42 : decode cX11_loft 42 = .ok (.iload_n 1, 1) := by decide +kernel
theorem dX11_loft_43 : decode cX11_loft 43 = .ok (.putfield 185, 3) := by decide +kernel
theorem dX11_loft_46 : decode cX11_loft 46 = .ok (.iload_n 2, 1) := by decide +kernel
theorem dX11_loft_47 : decode cX11_loft 47 = .ok (.ireturn, 1) := by decide +kernel
theorem dX11_hides_0 : decode cX11_hides 0 = .ok (.iload_n 1, 1) := by decide +kernel
theorem dX11_hides_1 : decode cX11_hides 1 = .ok (.iconst 1, 1) := by decide +kernel
theorem dX11_hides_2 : decode cX11_hides 2 = .ok (.if_icmp .ge 10, 3) := by decide +kernel
theorem dX11_hides_5 : decode cX11_hides 5 = .ok (.aload_n 0, 1) := by decide +kernel
theorem dX11_hides_6 : decode cX11_hides 6 = .ok (.bipush (-4), 2) := by decide +kernel
theorem dX11_hides_8 : decode cX11_hides 8 = .ok (.invokevirtual 69, 3) := by decide +kernel
theorem dX11_hides_11 : decode cX11_hides 11 = .ok (.ireturn, 1) := by decide +kernel
theorem dX11_hides_12 : decode cX11_hides 12 = .ok (.iload_n 1, 1) := by decide +kernel
theorem dX11_hides_13 : decode cX11_hides 13 = .ok (.sipush 1000, 3) := by decide +kernel
theorem dX11_hides_16 : decode cX11_hides 16 = .ok (.aload_n 0, 1) := by decide +kernel
theorem dX11_hides_17 : decode cX11_hides 17 = .ok (.getfield 190, 3) := by decide +kernel
theorem dX11_hides_20 : decode cX11_hides 20 = .ok (.isub, 1) := by decide +kernel
theorem dX11_hides_21 : decode cX11_hides 21 = .ok (.if_icmp .le 10, 3) := by decide +kernel
theorem dX11_hides_24 : decode cX11_hides 24 = .ok (.aload_n 0, 1) := by decide +kernel
theorem dX11_hides_25 : decode cX11_hides 25 = .ok (.bipush (-6), 2) := by decide +kernel
theorem dX11_hides_27 : decode cX11_hides 27 = .ok (.invokevirtual 69, 3) := by decide +kernel
theorem dX11_hides_30 : decode cX11_hides 30 = .ok (.ireturn, 1) := by decide +kernel
theorem dX11_hides_31 : decode cX11_hides 31 = .ok (.aload_n 0, 1) := by decide +kernel
theorem dX11_hides_32 : decode cX11_hides 32 = .ok (.dup, 1) := by decide +kernel
theorem dX11_hides_33 : decode cX11_hides 33 = .ok (.getfield 190, 3) := by decide +kernel
theorem dX11_hides_36 : decode cX11_hides 36 = .ok (.iload_n 1, 1) := by decide +kernel
theorem dX11_hides_37 : decode cX11_hides 37 = .ok (.iadd, 1) := by decide +kernel
theorem dX11_hides_38 : decode cX11_hides 38 = .ok (.putfield 190, 3) := by decide +kernel
theorem dX11_hides_41 : decode cX11_hides 41 = .ok (.aload_n 0, 1) := by decide +kernel
theorem dX11_hides_42 : decode cX11_hides 42 = .ok (.getfield 190, 3) := by decide +kernel
theorem dX11_hides_45 : decode cX11_hides 45 = .ok (.ireturn, 1) := by decide +kernel
theorem dX11_size_0 : decode cX11_size 0 = .ok (.iload_n 1, 1) := by decide +kernel
theorem dX11_size_1 : decode cX11_size 1 = .ok (.aload_n 0, 1) := by decide +kernel
theorem dX11_size_2 : decode cX11_size 2 = .ok (.getfield 28, 3) := by decide +kernel
theorem dX11_size_5 : decode cX11_size 5 = .ok (.getfield 44, 3) := by decide +kernel
theorem dX11_size_8 : decode cX11_size 8 = .ok (.getfield 193, 3) := by decide +kernel
theorem dX11_size_11 : decode cX11_size 11 = .ok (.invokestatic 65, 3) := by decide +kernel
theorem dX11_size_14 : decode cX11_size 14 = .ok (.ifCond .ne 9, 3) := by decide +kernel
theorem dX11_size_17 : decode cX11_size 17 = .ok (.aload_n 0, 1) := by decide +kernel
theorem dX11_size_18 : decode cX11_size 18 = .ok (.iconst (-1), 1) := by decide +kernel
theorem dX11_size_19 : decode cX11_size 19 = .ok (.invokevirtual 69, 3) := by decide +kernel
theorem dX11_size_22 : decode cX11_size 22 = .ok (.ireturn, 1) := by decide +kernel
theorem dX11_size_23 : decode cX11_size 23 = .ok (.aload_n 0, 1) := by decide +kernel
theorem dX11_size_24 : decode cX11_size 24 = .ok (.getfield 28, 3) := by decide +kernel
theorem dX11_size_27 : decode cX11_size 27 = .ok (.getfield 44, 3) := by decide +kernel
theorem dX11_size_30 : decode cX11_size 30 = .ok (.iload_n 1, 1) := by decide +kernel
theorem dX11_size_31 : decode cX11_size 31 = .ok (.invokevirtual 196, 3) := by decide +kernel
theorem dX11_size_34 : decode cX11_size 34 = .ok (.iconst 2, 1) := by decide +kernel
theorem dX11_size_35 : decode cX11_size 35 = .ok (.if_icmp .ne 10, 3) := by decide +kernel
theorem dX11_size_38 : decode cX11_size 38 = .ok (.aload_n 0, 1) := by decide +kernel
theorem dX11_size_39 : decode cX11_size 39 = .ok (.getfield 190, 3) := by decide +kernel
theorem dX11_size_42 : decode cX11_size 42 = .ok (.ifCond .ne 10, 3) := by decide +kernel
theorem dX11_size_45 : decode cX11_size 45 = .ok (.aload_n 0, 1) := by decide +kernel
theorem dX11_size_46 : decode cX11_size 46 = .ok (.bipush (-3), 2) := by decide +kernel
theorem dX11_size_48 : decode cX11_size 48 = .ok (.invokevirtual 69, 3) := by decide +kernel
theorem dX11_size_51 : decode cX11_size 51 = .ok (.ireturn, 1) := by decide +kernel
theorem dX11_size_52 : decode cX11_size 52 = .ok (.aload_n 0, 1) := by decide +kernel
theorem dX11_size_53 : decode cX11_size 53 = .ok (.iload_n 1, 1) := by decide +kernel
theorem dX11_size_54 : decode cX11_size 54 = .ok (.invokevirtual 199, 3) := by decide +kernel
theorem dX11_size_57 : decode cX11_size 57 = .ok (.ireturn, 1) := by decide +kernel
theorem dX11_sizeAll_0 : decode cX11_sizeAll 0 = .ok (.iconst 0, 1) := by decide +kernel
theorem dX11_sizeAll_1 : decode cX11_sizeAll 1 = .ok (.istore_n 1, 1) := by decide +kernel
theorem dX11_sizeAll_2 : decode cX11_sizeAll 2 = .ok (.iconst 0, 1) := by decide +kernel
theorem dX11_sizeAll_3 : decode cX11_sizeAll 3 = .ok (.istore_n 2, 1) := by decide +kernel
theorem dX11_sizeAll_4 : decode cX11_sizeAll 4 = .ok (.iload_n 2, 1) := by decide +kernel
theorem dX11_sizeAll_5 : decode cX11_sizeAll 5 = .ok (.aload_n 0, 1) := by decide +kernel
theorem dX11_sizeAll_6 : decode cX11_sizeAll 6 = .ok (.getfield 28, 3) := by decide +kernel
theorem dX11_sizeAll_9 : decode cX11_sizeAll 9 = .ok (.getfield 44, 3) := by decide +kernel
theorem dX11_sizeAll_12 : decode cX11_sizeAll 12 = .ok (.getfield 202, 3) := by decide +kernel
theorem dX11_sizeAll_15 : decode cX11_sizeAll 15 = .ok (.if_icmp .ge 40, 3) := by decide +kernel
theorem dX11_sizeAll_18 : decode cX11_sizeAll 18 = .ok (.aload_n 0, 1) := by decide +kernel
theorem dX11_sizeAll_19 : decode cX11_sizeAll 19 = .ok (.getfield 190, 3) := by decide +kernel
theorem dX11_sizeAll_22 : decode cX11_sizeAll 22 = .ok (.ifCond .le 33, 3) := by decide +kernel
theorem dX11_sizeAll_25 : decode cX11_sizeAll 25 = .ok (.aload_n 0, 1) := by decide +kernel
theorem dX11_sizeAll_26 : decode cX11_sizeAll 26 = .ok (.getfield 28, 3) := by decide +kernel
theorem dX11_sizeAll_29 : decode cX11_sizeAll 29 = .ok (.getfield 44, 3) := by decide +kernel
theorem dX11_sizeAll_32 : decode cX11_sizeAll 32 = .ok (.iload_n 2, 1) := by decide +kernel
theorem dX11_sizeAll_33 : decode cX11_sizeAll 33 = .ok (.invokevirtual 196, 3) := by decide +kernel
theorem dX11_sizeAll_36 : decode cX11_sizeAll 36 = .ok (.iconst 2, 1) := by decide +kernel
theorem dX11_sizeAll_37 : decode cX11_sizeAll 37 = .ok (.if_icmp .ne 12, 3) := by decide +kernel
theorem dX11_sizeAll_40 : decode cX11_sizeAll 40 = .ok (.aload_n 0, 1) := by decide +kernel
theorem dX11_sizeAll_41 : decode cX11_sizeAll 41 = .ok (.iload_n 2, 1) := by decide +kernel
theorem dX11_sizeAll_42 : decode cX11_sizeAll 42 = .ok (.invokevirtual 199, 3) := by decide +kernel
theorem dX11_sizeAll_45 : decode cX11_sizeAll 45 = .ok (.pop, 1) := by decide +kernel
theorem dX11_sizeAll_46 : decode cX11_sizeAll 46 = .ok (.iinc 1 1, 3) := by decide +kernel
theorem dX11_sizeAll_49 : decode cX11_sizeAll 49 = .ok (.iinc 2 1, 3) := by decide +kernel
theorem dX11_sizeAll_52 : decode cX11_sizeAll 52 = .ok (.goto (-48), 3) := by decide +kernel
theorem dX11_sizeAll_55 : decode cX11_sizeAll 55 = .ok (.iload_n 1, 1) := by decide +kernel
theorem dX11_sizeAll_56 : decode cX11_sizeAll 56 = .ok (.ireturn, 1) := by decide +kernel
theorem dX11_duty_0 : decode cX11_duty 0 = .ok (.iload_n 1, 1) := by decide +kernel
theorem dX11_duty_1 : decode cX11_duty 1 = .ok (.invokestatic 139, 3) := by decide +kernel
theorem dX11_duty_4 : decode cX11_duty 4 = .ok (.ifCond .ne 9, 3) := by decide +kernel
theorem dX11_duty_7 : decode cX11_duty 7 = .ok (.aload_n 0, 1) := by decide +kernel
theorem dX11_duty_8 : decode cX11_duty 8 = .ok (.iconst (-1), 1) := by decide +kernel
theorem dX11_duty_9 : decode cX11_duty 9 = .ok (.invokevirtual 69, 3) := by decide +kernel
theorem dX11_duty_12 : decode cX11_duty 12 = .ok (.ireturn, 1) := by decide +kernel
theorem dX11_duty_13 : decode cX11_duty 13 = .ok (.iload_n 2, 1) := by decide +kernel
theorem dX11_duty_14 : decode cX11_duty 14 = .ok (.ifCond .ge 10, 3) := by decide +kernel
theorem dX11_duty_17 : decode cX11_duty 17 = .ok (.aload_n 0, 1) := by decide +kernel
theorem dX11_duty_18 : decode cX11_duty 18 = .ok (.bipush (-4), 2) := by decide +kernel
theorem dX11_duty_20 : decode cX11_duty 20 = .ok (.invokevirtual 69, 3) := by decide +kernel
theorem dX11_duty_23 : decode cX11_duty 23 = .ok (.ireturn, 1) := by decide +kernel
theorem dX11_duty_24 : decode cX11_duty 24 = .ok (.iload_n 2, 1) := by decide +kernel
theorem dX11_duty_25 : decode cX11_duty 25 = .ok (.bipush 99, 2) := by decide +kernel
theorem dX11_duty_27 : decode cX11_duty 27 = .ok (.if_icmp .le 10, 3) := by decide +kernel
theorem dX11_duty_30 : decode cX11_duty 30 = .ok (.aload_n 0, 1) := by decide +kernel
theorem dX11_duty_31 : decode cX11_duty 31 = .ok (.bipush (-6), 2) := by decide +kernel
theorem dX11_duty_33 : decode cX11_duty 33 = .ok (.invokevirtual 69, 3) := by decide +kernel
theorem dX11_duty_36 : decode cX11_duty 36 = .ok (.ireturn, 1) := by decide +kernel
theorem dX11_duty_37 : decode cX11_duty 37 = .ok (.aload_n 0, 1) := by decide +kernel
theorem dX11_duty_38 : decode cX11_duty 38 = .ok (.getfield 55, 3) := by decide +kernel
theorem dX11_duty_41 : decode cX11_duty 41 = .ok (.iload_n 1, 1) := by decide +kernel
theorem dX11_duty_42 : decode cX11_duty 42 = .ok (.iaload, 1) := by decide +kernel
theorem dX11_duty_43 : decode cX11_duty 43 = .ok (.istore_n 3, 1) := by decide +kernel
theorem dX11_duty_44 : decode cX11_duty 44 = .ok (.aload_n 0, 1) := by decide +kernel
theorem dX11_duty_45 : decode cX11_duty 45 = .ok (.getfield 55, 3) := by decide +kernel
theorem dX11_duty_48 : decode cX11_duty 48 = .ok (.iload_n 1, 1) := by decide +kernel
theorem dX11_duty_49 : decode cX11_duty 49 = .ok (.iload_n 2, 1) := by decide +kernel
theorem dX11_duty_50 : decode cX11_duty 50 = .ok (.iastore, 1) := by decide +kernel
theorem dX11_duty_51 : decode cX11_duty 51 = .ok (.iload_n 3, 1) := by decide +kernel
theorem dX11_duty_52 : decode cX11_duty 52 = .ok (.ireturn, 1) := by decide +kernel
theorem dX11_order_0 : decode cX11_order 0 = .ok (.iload_n 1, 1) := by decide +kernel
theorem dX11_order_1 : decode cX11_order 1 = .ok (.bipush 9, 2) := by decide +kernel
theorem dX11_order_3 : decode cX11_order 3 = .ok (.invokestatic 65, 3) := by decide +kernel
theorem dX11_order_6 : decode cX11_order 6 = .ok (.ifCond .eq 10, 3) := by decide +kernel
theorem dX11_order_9 : decode cX11_order 9 = .ok (.iload_n 2, 1) := by decide +kernel
theorem dX11_order_10 : decode cX11_order 10 = .ok (.invokestatic 139, 3) := by decide +kernel
theorem dX11_order_13 : decode cX11_order 13 = .ok (.ifCond .ne 9, 3) := by decide +kernel
theorem dX11_order_16 : decode cX11_order 16 = .ok (.aload_n 0, 1) := by decide +kernel
theorem dX11_order_17 : decode cX11_order 17 = .ok (.iconst (-1), 1) := by decide +kernel
theorem dX11_order_18 : decode cX11_order 18 = .ok (.invokevirtual 69, 3) := by decide +kernel
theorem dX11_order_21 : decode cX11_order 21 = .ok (.ireturn, 1) := by decide +kernel
theorem dX11_order_22 : decode cX11_order 22 = .ok (.iload_n 3, 1) := by decide +kernel
theorem dX11_order_23 : decode cX11_order 23 = .ok (.iconst 1, 1) := by decide +kernel
theorem dX11_order_24 : decode cX11_order 24 = .ok (.if_icmp .lt 13, 3) := by decide +kernel
theorem dX11_order_27 : decode cX11_order 27 = .ok (.iload 4, 2) := by decide +kernel
theorem dX11_order_29 : decode cX11_order 29 = .ok (.ifCond .lt 8, 3) := by decide +kernel
theorem dX11_order_32 : decode cX11_order 32 = .ok (.iload 5, 2) := by decide +kernel
theorem dX11_order_34 : decode cX11_order 34 = .ok (.ifCond .ge 10, 3) := by decide +kernel
theorem dX11_order_37 : decode cX11_order 37 = .ok (.aload_n 0, 1) := by decide +kernel
theorem dX11_order_38 : decode cX11_order 38 = .ok (.bipush (-4), 2) := by decide +kernel
theorem dX11_order_40 : decode cX11_order 40 = .ok (.invokevirtual 69, 3) := by decide +kernel
theorem dX11_order_43 : decode cX11_order 43 = .ok (.ireturn, 1) := by decide +kernel
theorem dX11_order_44 : decode cX11_order 44 = .ok (.iload_n 3, 1) := by decide +kernel
theorem dX11_order_45 : decode cX11_order 45 = .ok (.bipush 20, 2) := by decide +kernel
theorem dX11_order_47 : decode cX11_order 47 = .ok (.if_icmp .gt 18, 3) := by decide +kernel
theorem dX11_order_50 : decode cX11_order 50 = .ok (.iload 4, 2) := by decide +kernel
theorem dX11_order_52 : decode cX11_order 52 = .ok (.bipush 101, 2) := by decide +kernel
theorem dX11_order_54 : decode cX11_order 54 = .ok (.if_icmp .ge 11, 3) := by decide +kernel
theorem dX11_order_57 : decode cX11_order 57 = .ok (.iload 5, 2) := by decide +kernel
theorem dX11_order_59 : decode cX11_order 59 = .ok (.sipush 999, 3) := by decide +kernel
theorem dX11_order_62 : decode cX11_order 62 = .ok (.if_icmp .le 10, 3) := by decide +kernel
theorem dX11_order_65 : decode cX11_order 65 = .ok (.aload_n 0, 1) := by decide +kernel
theorem dX11_order_66 : decode cX11_order 66 = .ok (.bipush (-6), 2) := by decide +kernel
theorem dX11_order_68 : decode cX11_order 68 = .ok (.invokevirtual 69, 3) := by decide +kernel
theorem dX11_order_71 : decode cX11_order 71 = .ok (.ireturn, 1) := by decide +kernel
theorem dX11_order_72 : decode cX11_order 72 = .ok (.aload_n 0, 1) := by decide +kernel
theorem dX11_order_73 : decode cX11_order 73 = .ok (.getfield 38, 3) := by decide +kernel
theorem dX11_order_76 : decode cX11_order 76 = .ok (.getfield 205, 3) := by decide +kernel
theorem dX11_order_79 : decode cX11_order 79 = .ok (.bipush 12, 2) := by decide +kernel
theorem dX11_order_81 : decode cX11_order 81 = .ok (.if_icmp .ne 10, 3) := by decide +kernel
theorem dX11_order_84 : decode cX11_order 84 = .ok (.aload_n 0, 1) := by decide +kernel
theorem dX11_order_85 : decode cX11_order 85 = .ok (.bipush (-6), 2) := by decide +kernel
theorem dX11_order_87 : decode cX11_order 87 = .ok (.invokevirtual 69, 3) := by decide +kernel
theorem dX11_order_90 : decode cX11_order 90 = .ok (.ireturn, 1) := by decide +kernel
theorem dX11_order_91 : decode cX11_order 91 = .ok (.aload_n 0, 1) := by decide +kernel
theorem dX11_order_92 : decode cX11_order 92 = .ok (.getfield 38, 3) := by decide +kernel
theorem dX11_order_95 : decode cX11_order 95 = .ok (.iload_n 1, 1) := by decide +kernel
theorem dX11_order_96 : decode cX11_order 96 = .ok (.iload_n 2, 1) := by decide +kernel
theorem dX11_order_97 : decode cX11_order 97 = .ok (.iload_n 3, 1) := by decide +kernel
theorem dX11_order_98 : decode cX11_order 98 = .ok (.iload 4, 2) := by decide +kernel
theorem dX11_order_100 : decode cX11_order 100 = .ok (.iload 5, 2) := by decide +kernel
theorem dX11_order_102 : decode cX11_order 102 = .ok (.invokevirtual 208, 3) := by decide +kernel
theorem dX11_order_105 : decode cX11_order 105 = .ok (.ireturn, 1) := by decide +kernel
theorem dX11_fill_0 : decode cX11_fill 0 = .ok (.iload_n 1, 1) := by decide +kernel
theorem dX11_fill_1 : decode cX11_fill 1 = .ok (.aload_n 0, 1) := by decide +kernel
theorem dX11_fill_2 : decode cX11_fill 2 = .ok (.getfield 38, 3) := by decide +kernel
theorem dX11_fill_5 : decode cX11_fill 5 = .ok (.getfield 205, 3) := by decide +kernel
theorem dX11_fill_8 : decode cX11_fill 8 = .ok (.invokestatic 65, 3) := by decide +kernel
theorem dX11_fill_11 : decode cX11_fill 11 = .ok (.ifCond .ne 12, 3) := by decide +kernel
theorem dX11_fill_14 : decode cX11_fill 14 = .ok (.ldc 211, 2) := by decide +kernel
theorem dX11_fill_16 : decode cX11_fill 16 = .ok (.aload_n 0, 1) := by decide +kernel
theorem dX11_fill_17 : decode cX11_fill 17 = .ok (.iconst (-1), 1) := by decide +kernel
theorem dX11_fill_18 : decode cX11_fill 18 = .ok (.invokevirtual 69, 3) := by decide +kernel
theorem dX11_fill_21 : decode cX11_fill 21 = .ok (.isub, 1) := by decide +kernel
theorem dX11_fill_22 : decode cX11_fill 22 = .ok (.ireturn, 1) := by decide +kernel
theorem dX11_fill_23 : decode cX11_fill 23 = .ok (.aload_n 0, 1) := by decide +kernel
theorem dX11_fill_24 : decode cX11_fill 24 = .ok (.getfield 38, 3) := by decide +kernel
theorem dX11_fill_27 : decode cX11_fill 27 = .ok (.getfield 212, 3) := by decide +kernel
theorem dX11_fill_30 : decode cX11_fill 30 = .ok (.iload_n 1, 1) := by decide +kernel
theorem dX11_fill_31 : decode cX11_fill 31 = .ok (.iaload, 1) := by decide +kernel
theorem dX11_fill_32 : decode cX11_fill 32 = .ok (.aload_n 0, 1) := by decide +kernel
theorem dX11_fill_33 : decode cX11_fill 33 = .ok (.getfield 38, 3) := by decide +kernel
theorem dX11_fill_36 : decode cX11_fill 36 = .ok (.getfield 213, 3) := by decide +kernel
theorem dX11_fill_39 : decode cX11_fill 39 = .ok (.iload_n 1, 1) := by decide +kernel
theorem dX11_fill_40 : decode cX11_fill 40 = .ok (.iaload, 1) := by decide +kernel
theorem dX11_fill_41 : decode cX11_fill 41 = .ok (.invokestatic 216, 3) := by decide +kernel
theorem dX11_fill_44 : decode cX11_fill 44 = .ok (.istore_n 2, 1) := by decide +kernel
theorem dX11_fill_45 : decode cX11_fill 45 = .ok (.aload_n 0, 1) := by decide +kernel
theorem dX11_fill_46 : decode cX11_fill 46 = .ok (.getfield 38, 3) := by decide +kernel
theorem dX11_fill_49 : decode cX11_fill 49 = .ok (.getfield 219, 3) := by decide +kernel
theorem dX11_fill_52 : decode cX11_fill 52 = .ok (.iload_n 1, 1) := by decide +kernel
theorem dX11_fill_53 : decode cX11_fill 53 = .ok (.iaload, 1) := by decide +kernel
theorem dX11_fill_54 : decode cX11_fill 54 = .ok (.sipush 480, 3) := by decide +kernel
theorem dX11_fill_57 : decode cX11_fill 57 = .ok (.imul, 1) := by decide +kernel
theorem dX11_fill_58 : decode cX11_fill 58 = .ok (.istore_n 3, 1) := by decide +kernel
theorem dX11_fill_59 : decode cX11_fill 59 = .ok (.aload_n 0, 1) := by decide +kernel
theorem dX11_fill_60 : decode cX11_fill 60 = .ok (.getfield 38, 3) := by decide +kernel
theorem dX11_fill_63 : decode cX11_fill 63 = .ok (.iload_n 1, 1) := by decide +kernel
theorem dX11_fill_64 : decode cX11_fill 64 = .ok (.invokevirtual 222, 3) := by decide +kernel
theorem dX11_fill_67 : decode cX11_fill 67 = .ok (.ifCond .eq 13, 3) := by decide +kernel
theorem dX11_fill_70 : decode cX11_fill 70 = .ok (.aload_n 0, 1) := by decide +kernel
theorem dX11_fill_71 : decode cX11_fill 71 = .ok (.getfield 59, 3) := by decide +kernel
theorem dX11_fill_74 : decode cX11_fill 74 = .ok (.iload_n 2, 1) := by decide +kernel
theorem dX11_fill_75 : decode cX11_fill 75 = .ok (.iaload, 1) := by decide +kernel
theorem dX11_fill_76 : decode cX11_fill 76 = .ok (.iload_n 3, 1) := by decide +kernel
theorem dX11_fill_77 : decode cX11_fill 77 = .ok (.if_icmp .ge 13, 3) := by decide +kernel
theorem dX11_fill_80 : decode cX11_fill 80 = .ok (.ldc 211, 2) := by decide +kernel
theorem dX11_fill_82 : decode cX11_fill 82 = .ok (.aload_n 0, 1) := by decide +kernel
theorem dX11_fill_83 : decode cX11_fill 83 = .ok (.bipush (-3), 2) := by decide +kernel
theorem dX11_fill_85 : decode cX11_fill 85 = .ok (.invokevirtual 69, 3) := by decide +kernel
theorem dX11_fill_88 : decode cX11_fill 88 = .ok (.isub, 1) := by decide +kernel
theorem dX11_fill_89 : decode cX11_fill 89 = .ok (.ireturn, 1) := by decide +kernel
theorem dX11_fill_90 : decode cX11_fill 90 = .ok (.aload_n 0, 1) := by decide +kernel
theorem dX11_fill_91 : decode cX11_fill 91 = .ok (.getfield 59, 3) := by decide +kernel
theorem dX11_fill_94 : decode cX11_fill 94 = .ok (.iload_n 2, 1) := by decide +kernel
theorem dX11_fill_95 : decode cX11_fill 95 = .ok (.dup2, 1) := by decide +kernel
theorem dX11_fill_96 : decode cX11_fill 96 = .ok (.iaload, 1) := by decide +kernel
theorem dX11_fill_97 : decode cX11_fill 97 = .ok (.iload_n 3, 1) := by decide +kernel
theorem dX11_fill_98 : decode cX11_fill 98 = .ok (.isub, 1) := by decide +kernel
theorem dX11_fill_99 : decode cX11_fill 99 = .ok (.iastore, 1) := by decide +kernel
theorem dX11_fill_100 : decode cX11_fill 100 = .ok (.aload_n 0, 1) := by decide +kernel
theorem dX11_fill_101 : decode cX11_fill 101 = .ok (.getfield 38, 3) := by decide +kernel
theorem dX11_fill_104 : decode cX11_fill 104 = .ok (.getfield 225, 3) := by decide +kernel
theorem dX11_fill_107 : decode cX11_fill 107 = .ok (.iload_n 1, 1) := by decide +kernel
theorem dX11_fill_108 : decode cX11_fill 108 = .ok (.aload_n 0, 1) := by decide +kernel
theorem dX11_fill_109 : decode cX11_fill 109 = .ok (.getfield 28, 3) := by decide +kernel
theorem dX11_fill_112 : decode cX11_fill 112 = .ok (.getfield 109, 3) := by decide +kernel
theorem dX11_fill_115 : decode cX11_fill 115 = .ok (.iastore, 1) := by decide +kernel
theorem dX11_fill_116 : decode cX11_fill 116 = .ok (.aload_n 0, 1) := by decide +kernel
theorem dX11_fill_117 : decode cX11_fill 117 = .ok (.getfield 38, 3) := by decide +kernel
theorem dX11_fill_120 : decode cX11_fill 120 = .ok (.iload_n 1, 1) := by decide +kernel
theorem dX11_fill_121 : decode cX11_fill 121 = .ok (.aload_n 0, 1) := by decide +kernel
theorem dX11_fill_122 : decode cX11_fill 122 = .ok (.getfield 28, 3) := by decide +kernel
theorem dX11_fill_125 : decode cX11_fill 125 = .ok (.invokevirtual 228, 3) := by decide +kernel
theorem dX11_fill_128 : decode cX11_fill 128 = .ok (.aload_n 0, 1) := by decide +kernel
theorem dX11_fill_129 : decode cX11_fill 129 = .ok (.getfield 55, 3) := by decide +kernel
theorem dX11_fill_132 : decode cX11_fill 132 = .ok (.aload_n 0, 1) := by decide +kernel
theorem dX11_fill_133 : decode cX11_fill 133 = .ok (.getfield 38, 3) := by decide +kernel
theorem dX11_fill_136 : decode cX11_fill 136 = .ok (.getfield 213, 3) := by decide +kernel
theorem dX11_fill_139 : decode cX11_fill 139 = .ok (.iload_n 1, 1) := by decide +kernel
theorem dX11_fill_140 : decode cX11_fill 140 = .ok (.iaload, 1) := by decide +kernel
theorem dX11_fill_141 : decode cX11_fill 141 = .ok (.iaload, 1) := by decide +kernel
theorem dX11_fill_142 : decode cX11_fill 142 = .ok (.invokevirtual 232, 3) := by decide +kernel
theorem dX11_fill_145 : decode cX11_fill 145 = .ok (.istore 4, 2) := by decide +kernel
theorem dX11_fill_147 : decode cX11_fill 147 = .ok (.aload_n 0, 1) := by decide +kernel
theorem dX11_fill_148 : decode cX11_fill 148 = .ok (.dup, 1) := by decide +kernel
theorem dX11_fill_149 : decode cX11_fill 149 = .ok (.getfield 235, 3) := by decide +kernel
theorem dX11_fill_152 : decode cX11_fill 152 = .ok (.iload 4, 2) := by decide +kernel
theorem dX11_fill_154 : decode cX11_fill 154 = .ok (.iadd, 1) := by decide +kernel
theorem dX11_fill_155 : decode cX11_fill 155 = .ok (.putfield 235, 3) := by decide +kernel
theorem dX11_fill_158 : decode cX11_fill 158 = .ok (.iload 4, 2) := by decide +kernel
theorem dX11_fill_160 : decode cX11_fill 160 = .ok (.ireturn, 1) := by decide +kernel
theorem dX11_best_0 : decode cX11_best 0 = .ok (.aload_n 0, 1) := by decide +kernel
theorem dX11_best_1 : decode cX11_best 1 = .ok (.iload_n 1, 1) := by decide +kernel
theorem dX11_best_2 : decode cX11_best 2 = .ok (.invokevirtual 238, 3) := by decide +kernel
theorem dX11_best_5 : decode cX11_best 5 = .ok (.istore_n 2, 1) := by decide +kernel
theorem dX11_best_6 : decode cX11_best 6 = .ok (.iload_n 2, 1) := by decide +kernel
theorem dX11_best_7 : decode cX11_best 7 = .ok (.ifCond .eq 9, 3) := by decide +kernel
theorem dX11_best_10 : decode cX11_best 10 = .ok (.aload_n 0, 1) := by decide +kernel
theorem dX11_best_11 : decode cX11_best 11 = .ok (.iload_n 2, 1) := by decide +kernel
theorem dX11_best_12 : decode cX11_best 12 = .ok (.invokevirtual 69, 3) := by decide +kernel
theorem dX11_best_15 : decode cX11_best 15 = .ok (.ireturn, 1) := by decide +kernel
theorem dX11_best_16 : decode cX11_best 16 = .ok (.aload_n 0, 1) := by decide +kernel
theorem dX11_best_17 : decode cX11_best 17 = .ok (.getfield 38, 3) := by decide +kernel
theorem dX11_best_20 : decode cX11_best 20 = .ok (.iload_n 1, 1) := by decide +kernel
theorem dX11_best_21 : decode cX11_best 21 = .ok (.aload_n 0, 1) := by decide +kernel
theorem dX11_best_22 : decode cX11_best 22 = .ok (.getfield 28, 3) := by decide +kernel
theorem dX11_best_25 : decode cX11_best 25 = .ok (.invokevirtual 228, 3) := by decide +kernel
theorem dX11_best_28 : decode cX11_best 28 = .ok (.iconst 1, 1) := by decide +kernel
theorem dX11_best_29 : decode cX11_best 29 = .ok (.iadd, 1) := by decide +kernel
theorem dX11_best_30 : decode cX11_best 30 = .ok (.invokevirtual 241, 3) := by decide +kernel
theorem dX11_best_33 : decode cX11_best 33 = .ok (.aload_n 0, 1) := by decide +kernel
theorem dX11_best_34 : decode cX11_best 34 = .ok (.getfield 38, 3) := by decide +kernel
theorem dX11_best_37 : decode cX11_best 37 = .ok (.getfield 245, 3) := by decide +kernel
theorem dX11_best_40 : decode cX11_best 40 = .ok (.ireturn, 1) := by decide +kernel
theorem dX11_bestWorth_0 : decode cX11_bestWorth 0 = .ok (.aload_n 0, 1) := by decide +kernel
theorem dX11_bestWorth_1 : decode cX11_bestWorth 1 = .ok (.iload_n 1, 1) := by decide +kernel
theorem dX11_bestWorth_2 : decode cX11_bestWorth 2 = .ok (.invokevirtual 238, 3) := by decide +kernel
theorem dX11_bestWorth_5 : decode cX11_bestWorth 5 = .ok (.istore_n 2, 1) := by decide +kernel
theorem dX11_bestWorth_6 : decode cX11_bestWorth 6 = .ok (.iload_n 2, 1) := by decide +kernel
theorem dX11_bestWorth_7 : decode cX11_bestWorth 7 = .ok (.ifCond .eq 9, 3) := by decide +kernel
theorem dX11_bestWorth_10 : decode cX11_bestWorth 10 = .ok (.aload_n 0, 1) := by decide +kernel
theorem dX11_bestWorth_11 : decode cX11_bestWorth 11 = .ok (.iload_n 2, 1) := by decide +kernel
theorem dX11_bestWorth_12 : decode cX11_bestWorth 12 = .ok (.invokevirtual 69, 3) := by decide +kernel
theorem dX11_bestWorth_15 : decode cX11_bestWorth 15 = .ok (.ireturn, 1) := by decide +kernel
theorem dX11_bestWorth_16 : decode cX11_bestWorth 16 = .ok (.aload_n 0, 1) := by decide +kernel
theorem dX11_bestWorth_17 : decode cX11_bestWorth 17 = .ok (.getfield 38, 3) := by decide +kernel
theorem dX11_bestWorth_20 : decode cX11_bestWorth 20 = .ok (.iload_n 1, 1) := by decide +kernel
theorem dX11_bestWorth_21 : decode cX11_bestWorth 21 = .ok (.aload_n 0, 1) := by decide +kernel
theorem dX11_bestWorth_22 : decode cX11_bestWorth 22 = .ok (.getfield 28, 3) := by decide +kernel
theorem dX11_bestWorth_25 : decode cX11_bestWorth 25 = .ok (.invokevirtual 228, 3) := by decide +kernel
theorem dX11_bestWorth_28 : decode cX11_bestWorth 28 = .ok (.iconst 1, 1) := by decide +kernel
theorem dX11_bestWorth_29 : decode cX11_bestWorth 29 = .ok (.iadd, 1) := by decide +kernel
theorem dX11_bestWorth_30 : decode cX11_bestWorth 30 = .ok (.invokevirtual 241, 3) := by decide +kernel
theorem dX11_bestWorth_33 : decode cX11_bestWorth 33 = .ok (.aload_n 0, 1) := by decide +kernel
theorem dX11_bestWorth_34 : decode cX11_bestWorth 34 = .ok (.getfield 38, 3) := by decide +kernel
theorem dX11_bestWorth_37 : decode cX11_bestWorth 37 = .ok (.getfield 248, 3) := by decide +kernel
theorem dX11_bestWorth_40 : decode cX11_bestWorth 40 = .ok (.ireturn, 1) := by decide +kernel
theorem dX11_hours_0 : decode cX11_hours 0 = .ok (.iload_n 1, 1) := by decide +kernel
theorem dX11_hours_1 : decode cX11_hours 1 = .ok (.iconst 1, 1) := by decide +kernel
theorem dX11_hours_2 : decode cX11_hours 2 = .ok (.if_icmp .ge 10, 3) := by decide +kernel
theorem dX11_hours_5 : decode cX11_hours 5 = .ok (.aload_n 0, 1) := by decide +kernel
theorem dX11_hours_6 : decode cX11_hours 6 = .ok (.bipush (-4), 2) := by decide +kernel
theorem dX11_hours_8 : decode cX11_hours 8 = .ok (.invokevirtual 69, 3) := by decide +kernel
theorem dX11_hours_11 : decode cX11_hours 11 = .ok (.ireturn, 1) := by decide +kernel
theorem dX11_hours_12 : decode cX11_hours 12 = .ok (.iload_n 1, 1) := by decide +kernel
theorem dX11_hours_13 : decode cX11_hours 13 = .ok (.sipush 2400, 3) := by decide +kernel
theorem dX11_hours_16 : decode cX11_hours 16 = .ok (.aload_n 0, 1) := by decide +kernel
theorem dX11_hours_17 : decode cX11_hours 17 = .ok (.getfield 28, 3) := by decide +kernel
theorem dX11_hours_20 : decode cX11_hours 20 = .ok (.getfield 109, 3) := by decide +kernel
theorem dX11_hours_23 : decode cX11_hours 23 = .ok (.isub, 1) := by decide +kernel
theorem dX11_hours_24 : decode cX11_hours 24 = .ok (.if_icmp .le 10, 3) := by decide +kernel
theorem dX11_hours_27 : decode cX11_hours 27 = .ok (.aload_n 0, 1) := by decide +kernel
theorem dX11_hours_28 : decode cX11_hours 28 = .ok (.bipush (-6), 2) := by decide +kernel
theorem dX11_hours_30 : decode cX11_hours 30 = .ok (.invokevirtual 69, 3) := by decide +kernel
theorem dX11_hours_33 : decode cX11_hours 33 = .ok (.ireturn, 1) := by decide +kernel
theorem dX11_hours_34 : decode cX11_hours 34 = .ok (.aload_n 0, 1) := by decide +kernel
theorem dX11_hours_35 : decode cX11_hours 35 = .ok (.getfield 28, 3) := by decide +kernel
theorem dX11_hours_38 : decode cX11_hours 38 = .ok (.getfield 44, 3) := by decide +kernel
theorem dX11_hours_41 : decode cX11_hours 41 = .ok (.getfield 193, 3) := by decide +kernel
theorem dX11_hours_44 : decode cX11_hours 44 = .ok (.istore_n 2, 1) := by decide +kernel
theorem dX11_hours_45 : decode cX11_hours 45 = .ok (.aload_n 0, 1) := by decide +kernel
theorem dX11_hours_46 : decode cX11_hours 46 = .ok (.getfield 28, 3) := by decide +kernel
theorem dX11_hours_49 : decode cX11_hours 49 = .ok (.iload_n 1, 1) := by decide +kernel
theorem dX11_hours_50 : decode cX11_hours 50 = .ok (.invokevirtual 251, 3) := by decide +kernel
theorem dX11_hours_53 : decode cX11_hours 53 = .ok (.aload_n 0, 1) := by decide +kernel
theorem dX11_hours_54 : decode cX11_hours 54 = .ok (.getfield 28, 3) := by decide +kernel
theorem dX11_hours_57 : decode cX11_hours 57 = .ok (.getfield 44, 3) := by decide +kernel
theorem dX11_hours_60 : decode cX11_hours 60 = .ok (.getfield 193, 3) := by decide +kernel
theorem dX11_hours_63 : decode cX11_hours 63 = .ok (.iload_n 2, 1) := by decide +kernel
theorem dX11_hours_64 : decode cX11_hours 64 = .ok (.isub, 1) := by decide +kernel
theorem dX11_hours_65 : decode cX11_hours 65 = .ok (.ireturn, 1) := by decide +kernel
theorem dX11_foretell_0 : decode cX11_foretell 0 = .ok (.iload_n 2, 1) := by decide +kernel
theorem dX11_foretell_1 : decode cX11_foretell 1 = .ok (.iconst 5, 1) := by decide +kernel
theorem dX11_foretell_2 : decode cX11_foretell 2 = .ok (.invokestatic 65, 3) := by decide +kernel
theorem dX11_foretell_5 : decode cX11_foretell 5 = .ok (.ifCond .ne 10, 3) := by decide +kernel
theorem dX11_foretell_8 : decode cX11_foretell 8 = .ok (.aload_n 0, 1) := by decide +kernel
theorem dX11_foretell_9 : decode cX11_foretell 9 = .ok (.bipush (-2), 2) := by decide +kernel
theorem dX11_foretell_11 : decode cX11_foretell 11 = .ok (.invokevirtual 69, 3) := by decide +kernel
theorem dX11_foretell_14 : decode cX11_foretell 14 = .ok (.ireturn, 1) := by decide +kernel
theorem dX11_foretell_15 : decode cX11_foretell 15 = .ok (.iload_n 1, 1) := by decide +kernel
theorem dX11_foretell_16 : decode cX11_foretell 16 = .ok (.iconst 1, 1) := by decide +kernel
theorem dX11_foretell_17 : decode cX11_foretell 17 = .ok (.if_icmp .ge 10, 3) := by decide +kernel
theorem dX11_foretell_20 : decode cX11_foretell 20 = .ok (.aload_n 0, 1) := by decide +kernel
theorem dX11_foretell_21 : decode cX11_foretell 21 = .ok (.bipush (-4), 2) := by decide +kernel
theorem dX11_foretell_23 : decode cX11_foretell 23 = .ok (.invokevirtual 69, 3) := by decide +kernel
theorem dX11_foretell_26 : decode cX11_foretell 26 = .ok (.ireturn, 1) := by decide +kernel
theorem dX11_foretell_27 : decode cX11_foretell 27 = .ok (.iload_n 1, 1) := by decide +kernel
theorem dX11_foretell_28 : decode cX11_foretell 28 = .ok (.sipush 240, 3) := by decide +kernel
theorem dX11_foretell_31 : decode cX11_foretell 31 = .ok (.if_icmp .gt 18, 3) := by decide +kernel
theorem dX11_foretell_34 : decode cX11_foretell 34 = .ok (.iload_n 1, 1) := by decide +kernel
theorem dX11_foretell_35 : decode cX11_foretell 35 = .ok (.sipush 2400, 3) := by decide +kernel
theorem dX11_foretell_38 : decode cX11_foretell 38 = .ok (.aload_n 0, 1) := by decide +kernel
theorem dX11_foretell_39 : decode cX11_foretell 39 = .ok (.getfield 28, 3) := by decide +kernel
theorem dX11_foretell_42 : decode cX11_foretell 42 = .ok (.getfield 109, 3) := by decide +kernel
theorem dX11_foretell_45 : decode cX11_foretell 45 = .ok (.isub, 1) := by decide +kernel
theorem dX11_foretell_46 : decode cX11_foretell 46 = .ok (.if_icmp .le 10, 3) := by decide +kernel
theorem dX11_foretell_49 : decode cX11_foretell 49 = .ok (.aload_n 0, 1) := by decide +kernel
theorem dX11_foretell_50 : decode cX11_foretell 50 = .ok (.bipush (-6), 2) := by decide +kernel
theorem dX11_foretell_52 : decode cX11_foretell 52 = .ok (.invokevirtual 69, 3) := by decide +kernel
theorem dX11_foretell_55 : decode cX11_foretell 55 = .ok (.ireturn, 1) := by decide +kernel
theorem dX11_foretell_56 : decode cX11_foretell 56 = .ok (.aload_n 0, 1) := by decide +kernel
theorem dX11_foretell_57 : decode cX11_foretell 57 = .ok (.getfield 32, 3) := by decide +kernel
theorem dX11_foretell_60 : decode cX11_foretell 60 = .ok (.aload_n 0, 1) := by decide +kernel
theorem dX11_foretell_61 : decode cX11_foretell 61 = .ok (.getfield 28, 3) := by decide +kernel
theorem dX11_foretell_64 : decode cX11_foretell 64 = .ok (.invokevirtual 255, 3) := by decide +kernel
theorem dX11_foretell_67 : decode cX11_foretell 67 = .ok (.aload_n 0, 1) := by decide +kernel
theorem dX11_foretell_68 : decode cX11_foretell 68 = .ok (.getfield 32, 3) := by decide +kernel
theorem dX11_foretell_71 : decode cX11_foretell 71 = .ok (.iload_n 1, 1) := by decide +kernel
theorem dX11_foretell_72 : decode cX11_foretell 72 = .ok (.invokevirtual 251, 3) := by decide +kernel
theorem dX11_foretell_75 : decode cX11_foretell 75 = .ok (.iload_n 2, 1) := by decide +kernel
theorem dX11_foretell_76 : decode cX11_foretell 76 = .ok (.tableswitch 76 0 3 #[32, 43, 54, 65], 32) := by decide +kernel
theorem dX11_foretell_108 : decode cX11_foretell 108 = .ok (.aload_n 0, 1) := by decide +kernel
theorem dX11_foretell_109 : decode cX11_foretell 109 = .ok (.getfield 32, 3) := by decide +kernel
theorem dX11_foretell_112 : decode cX11_foretell 112 = .ok (.getfield 44, 3) := by decide +kernel
theorem dX11_foretell_115 : decode cX11_foretell 115 = .ok (.getfield 193, 3) := by decide +kernel
theorem dX11_foretell_118 : decode cX11_foretell 118 = .ok (.ireturn, 1) := by decide +kernel
theorem dX11_foretell_119 : decode cX11_foretell 119 = .ok (.aload_n 0, 1) := by decide +kernel
theorem dX11_foretell_120 : decode cX11_foretell 120 = .ok (.getfield 32, 3) := by decide +kernel
theorem dX11_foretell_123 : decode cX11_foretell 123 = .ok (.getfield 44, 3) := by decide +kernel
theorem dX11_foretell_126 : decode cX11_foretell 126 = .ok (.getfield 202, 3) := by decide +kernel
theorem dX11_foretell_129 : decode cX11_foretell 129 = .ok (.ireturn, 1) := by decide +kernel
theorem dX11_foretell_130 : decode cX11_foretell 130 = .ok (.aload_n 0, 1) := by decide +kernel
theorem dX11_foretell_131 : decode cX11_foretell 131 = .ok (.getfield 32, 3) := by decide +kernel
theorem dX11_foretell_134 : decode cX11_foretell 134 = .ok (.getfield 157, 3) := by decide +kernel
theorem dX11_foretell_137 : decode cX11_foretell 137 = .ok (.getfield 259, 3) := by decide +kernel
theorem dX11_foretell_140 : decode cX11_foretell 140 = .ok (.ireturn, 1) := by decide +kernel
theorem dX11_foretell_141 : decode cX11_foretell 141 = .ok (.aload_n 0, 1) := by decide +kernel
theorem dX11_foretell_142 : decode cX11_foretell 142 = .ok (.getfield 32, 3) := by decide +kernel
theorem dX11_foretell_145 : decode cX11_foretell 145 = .ok (.getfield 99, 3) := by decide +kernel
theorem dX11_foretell_148 : decode cX11_foretell 148 = .ok (.getfield 262, 3) := by decide +kernel
theorem dX11_foretell_151 : decode cX11_foretell 151 = .ok (.ireturn, 1) := by decide +kernel
theorem dX11_foretell_152 : decode cX11_foretell 152 = .ok (.aload_n 0, 1) := by decide +kernel
theorem dX11_foretell_153 : decode cX11_foretell 153 = .ok (.getfield 32, 3) := by decide +kernel
theorem dX11_foretell_156 : decode cX11_foretell 156 = .ok (.invokevirtual 265, 3) := by decide +kernel
theorem dX11_foretell_159 : decode cX11_foretell 159 = .ok (.ireturn, 1) := by decide +kernel
theorem dX11_when_0 : decode cX11_when 0 = .ok (.iload_n 1, 1) := by decide +kernel
theorem dX11_when_1 : decode cX11_when 1 = .ok (.ifCond .ge 10, 3) := by decide +kernel
theorem dX11_when_4 : decode cX11_when 4 = .ok (.aload_n 0, 1) := by decide +kernel
theorem dX11_when_5 : decode cX11_when 5 = .ok (.bipush (-4), 2) := by decide +kernel
theorem dX11_when_7 : decode cX11_when 7 = .ok (.invokevirtual 69, 3) := by decide +kernel
theorem dX11_when_10 : decode cX11_when 10 = .ok (.ireturn, 1) := by decide +kernel
theorem dX11_when_11 : decode cX11_when 11 = .ok (.iload_n 1, 1) := by decide +kernel
theorem dX11_when_12 : decode cX11_when 12 = .ok (.bipush 80, 2) := by decide +kernel
theorem dX11_when_14 : decode cX11_when 14 = .ok (.if_icmp .le 10, 3) := by decide +kernel
theorem dX11_when_17 : decode cX11_when 17 = .ok (.aload_n 0, 1) := by decide +kernel
theorem dX11_when_18 : decode cX11_when 18 = .ok (.bipush (-6), 2) := by decide +kernel
theorem dX11_when_20 : decode cX11_when 20 = .ok (.invokevirtual 69, 3) := by decide +kernel
theorem dX11_when_23 : decode cX11_when 23 = .ok (.ireturn, 1) := by decide +kernel
theorem dX11_when_24 : decode cX11_when 24 = .ok (.aload_n 0, 1) := by decide +kernel
theorem dX11_when_25 : decode cX11_when 25 = .ok (.getfield 32, 3) := by decide +kernel
theorem dX11_when_28 : decode cX11_when 28 = .ok (.aload_n 0, 1) := by decide +kernel
theorem dX11_when_29 : decode cX11_when 29 = .ok (.getfield 28, 3) := by decide +kernel
theorem dX11_when_32 : decode cX11_when 32 = .ok (.invokevirtual 255, 3) := by decide +kernel
theorem dX11_when_35 : decode cX11_when 35 = .ok (.aload_n 0, 1) := by decide +kernel
theorem dX11_when_36 : decode cX11_when 36 = .ok (.getfield 28, 3) := by decide +kernel
theorem dX11_when_39 : decode cX11_when 39 = .ok (.getfield 109, 3) := by decide +kernel
theorem dX11_when_42 : decode cX11_when 42 = .ok (.istore_n 2, 1) := by decide +kernel
theorem dX11_when_43 : decode cX11_when 43 = .ok (.iload_n 2, 1) := by decide +kernel
theorem dX11_when_44 : decode cX11_when 44 = .ok (.sipush 240, 3) := by decide +kernel
theorem dX11_when_47 : decode cX11_when 47 = .ok (.iadd, 1) := by decide +kernel
theorem dX11_when_48 : decode cX11_when 48 = .ok (.sipush 2400, 3) := by decide +kernel
theorem dX11_when_51 : decode cX11_when 51 = .ok (.invokestatic 268, 3) := by decide +kernel
theorem dX11_when_54 : decode cX11_when 54 = .ok (.istore_n 3, 1) := by decide +kernel
theorem dX11_when_55 : decode cX11_when 55 = .ok (.iload_n 2, 1) := by decide +kernel
theorem dX11_when_56 : decode cX11_when 56 = .ok (.iload_n 3, 1) := by decide +kernel
theorem dX11_when_57 : decode cX11_when 57 = .ok (.if_icmp .ge 31, 3) := by decide +kernel
theorem dX11_when_60 : decode cX11_when 60 = .ok (.aload_n 0, 1) := by decide +kernel
theorem dX11_when_61 : decode cX11_when 61 = .ok (.getfield 32, 3) := by decide +kernel
theorem dX11_when_64 : decode cX11_when 64 = .ok (.getfield 44, 3) := by decide +kernel
theorem dX11_when_67 : decode cX11_when 67 = .ok (.getfield 202, 3) := by decide +kernel
theorem dX11_when_70 : decode cX11_when 70 = .ok (.iload_n 1, 1) := by decide +kernel
theorem dX11_when_71 : decode cX11_when 71 = .ok (.if_icmp .ge 17, 3) := by decide +kernel
theorem dX11_when_74 : decode cX11_when 74 = .ok (.aload_n 0, 1) := by decide +kernel
theorem dX11_when_75 : decode cX11_when 75 = .ok (.getfield 32, 3) := by decide +kernel
theorem dX11_when_78 : decode cX11_when 78 = .ok (.iconst 1, 1) := by decide +kernel
theorem dX11_when_79 : decode cX11_when 79 = .ok (.invokevirtual 251, 3) := by decide +kernel
theorem dX11_when_82 : decode cX11_when 82 = .ok (.iinc 2 1, 3) := by decide +kernel
theorem dX11_when_85 : decode cX11_when 85 = .ok (.goto (-30), 3) := by decide +kernel
theorem dX11_when_88 : decode cX11_when 88 = .ok (.aload_n 0, 1) := by decide +kernel
theorem dX11_when_89 : decode cX11_when 89 = .ok (.getfield 32, 3) := by decide +kernel
theorem dX11_when_92 : decode cX11_when 92 = .ok (.getfield 44, 3) := by decide +kernel
theorem dX11_when_95 : decode cX11_when 95 = .ok (.getfield 202, 3) := by decide +kernel
theorem dX11_when_98 : decode cX11_when 98 = .ok (.iload_n 1, 1) := by decide +kernel
theorem dX11_when_99 : decode cX11_when 99 = .ok (.if_icmp .lt 7, 3) := by decide +kernel
theorem dX11_when_102 : decode cX11_when 102 = .ok (.iload_n 2, 1) := by decide +kernel
theorem dX11_when_103 : decode cX11_when 103 = .ok (.goto 5, 3) := by decide +kernel
theorem dX11_when_106 : decode cX11_when 106 = .ok (.bipush (-9), 2) := by decide +kernel
theorem dX11_when_108 : decode cX11_when 108 = .ok (.ireturn, 1) := by decide +kernel
theorem dX11_mark_0 : decode cX11_mark 0 = .ok (.iload_n 1, 1) := by decide +kernel
theorem dX11_mark_1 : decode cX11_mark 1 = .ok (.aload_n 0, 1) := by decide +kernel
theorem dX11_mark_2 : decode cX11_mark 2 = .ok (.getfield 28, 3) := by decide +kernel
theorem dX11_mark_5 : decode cX11_mark 5 = .ok (.getfield 44, 3) := by decide +kernel
theorem dX11_mark_8 : decode cX11_mark 8 = .ok (.getfield 193, 3) := by decide +kernel
theorem dX11_mark_11 : decode cX11_mark 11 = .ok (.invokestatic 65, 3) := by decide +kernel
theorem dX11_mark_14 : decode cX11_mark 14 = .ok (.ifCond .ne 9, 3) := by decide +kernel
theorem dX11_mark_17 : decode cX11_mark 17 = .ok (.aload_n 0, 1) := by decide +kernel
theorem dX11_mark_18 : decode cX11_mark 18 = .ok (.iconst (-1), 1) := by decide +kernel
theorem dX11_mark_19 : decode cX11_mark 19 = .ok (.invokevirtual 69, 3) := by decide +kernel
theorem dX11_mark_22 : decode cX11_mark 22 = .ok (.ireturn, 1) := by decide +kernel
theorem dX11_mark_23 : decode cX11_mark 23 = .ok (.iload_n 2, 1) := by decide +kernel
theorem dX11_mark_24 : decode cX11_mark 24 = .ok (.bipush 60, 2) := by decide +kernel
theorem dX11_mark_26 : decode cX11_mark 26 = .ok (.invokestatic 65, 3) := by decide +kernel
theorem dX11_mark_29 : decode cX11_mark 29 = .ok (.ifCond .eq 12, 3) := by decide +kernel
theorem dX11_mark_32 : decode cX11_mark 32 = .ok (.iload_n 3, 1) := by decide +kernel
theorem dX11_mark_33 : decode cX11_mark 33 = .ok (.bipush 6, 2) := by decide +kernel
theorem dX11_mark_35 : decode cX11_mark 35 = .ok (.invokestatic 65, 3) := by decide +kernel
theorem dX11_mark_38 : decode cX11_mark 38 = .ok (.ifCond .ne 9, 3) := by decide +kernel
theorem dX11_mark_41 : decode cX11_mark 41 = .ok (.aload_n 0, 1) := by decide +kernel
theorem dX11_mark_42 : decode cX11_mark 42 = .ok (.iconst (-1), 1) := by decide +kernel
theorem dX11_mark_43 : decode cX11_mark 43 = .ok (.invokevirtual 69, 3) := by decide +kernel
theorem dX11_mark_46 : decode cX11_mark 46 = .ok (.ireturn, 1) := by decide +kernel
theorem dX11_mark_47 : decode cX11_mark 47 = .ok (.aload_n 0, 1) := by decide +kernel
theorem dX11_mark_48 : decode cX11_mark 48 = .ok (.getfield 28, 3) := by decide +kernel
theorem dX11_mark_51 : decode cX11_mark 51 = .ok (.getfield 44, 3) := by decide +kernel
theorem dX11_mark_54 : decode cX11_mark 54 = .ok (.getfield 273, 3) := by decide +kernel
theorem dX11_mark_57 : decode cX11_mark 57 = .ok (.iload_n 1, 1) := by decide +kernel
theorem dX11_mark_58 : decode cX11_mark 58 = .ok (.iload_n 2, 1) := by decide +kernel
theorem dX11_mark_59 : decode cX11_mark 59 = .ok (.iload_n 3, 1) := by decide +kernel
theorem dX11_mark_60 : decode cX11_mark 60 = .ok (.invokevirtual 277, 3) := by decide +kernel
theorem dX11_mark_63 : decode cX11_mark 63 = .ok (.ireturn, 1) := by decide +kernel
theorem dX11_oldA_0 : decode cX11_oldA 0 = .ok (.aload_n 0, 1) := by decide +kernel
theorem dX11_oldA_1 : decode cX11_oldA 1 = .ok (.iconst 0, 1) := by decide +kernel
theorem dX11_oldA_2 : decode cX11_oldA 2 = .ok (.iload_n 1, 1) := by decide +kernel
theorem dX11_oldA_3 : decode cX11_oldA 3 = .ok (.iload_n 2, 1) := by decide +kernel
theorem dX11_oldA_4 : decode cX11_oldA 4 = .ok (.iload_n 3, 1) := by decide +kernel
theorem dX11_oldA_5 : decode cX11_oldA 5 = .ok (.invokevirtual 282, 3) := by decide +kernel
theorem dX11_oldA_8 : decode cX11_oldA 8 = .ok (.ireturn, 1) := by decide +kernel
theorem dX11_oldB_0 : decode cX11_oldB 0 = .ok (.aload_n 0, 1) := by decide +kernel
theorem dX11_oldB_1 : decode cX11_oldB 1 = .ok (.iconst 3, 1) := by decide +kernel
theorem dX11_oldB_2 : decode cX11_oldB 2 = .ok (.iload_n 1, 1) := by decide +kernel
theorem dX11_oldB_3 : decode cX11_oldB 3 = .ok (.iload_n 2, 1) := by decide +kernel
theorem dX11_oldB_4 : decode cX11_oldB 4 = .ok (.iload_n 3, 1) := by decide +kernel
theorem dX11_oldB_5 : decode cX11_oldB 5 = .ok (.invokevirtual 282, 3) := by decide +kernel
theorem dX11_oldB_8 : decode cX11_oldB 8 = .ok (.ireturn, 1) := by decide +kernel
theorem dX11_lies_0 : decode cX11_lies 0 = .ok (.iload_n 1, 1) := by decide +kernel
theorem dX11_lies_1 : decode cX11_lies 1 = .ok (.ifCond .ge 10, 3) := by decide +kernel
theorem dX11_lies_4 : decode cX11_lies 4 = .ok (.aload_n 0, 1) := by decide +kernel
theorem dX11_lies_5 : decode cX11_lies 5 = .ok (.bipush (-4), 2) := by decide +kernel
theorem dX11_lies_7 : decode cX11_lies 7 = .ok (.invokevirtual 69, 3) := by decide +kernel
theorem dX11_lies_10 : decode cX11_lies 10 = .ok (.ireturn, 1) := by decide +kernel
theorem dX11_lies_11 : decode cX11_lies 11 = .ok (.iload_n 1, 1) := by decide +kernel
theorem dX11_lies_12 : decode cX11_lies 12 = .ok (.bipush 99, 2) := by decide +kernel
theorem dX11_lies_14 : decode cX11_lies 14 = .ok (.if_icmp .le 10, 3) := by decide +kernel
theorem dX11_lies_17 : decode cX11_lies 17 = .ok (.aload_n 0, 1) := by decide +kernel
theorem dX11_lies_18 : decode cX11_lies 18 = .ok (.bipush (-6), 2) := by decide +kernel
theorem dX11_lies_20 : decode cX11_lies 20 = .ok (.invokevirtual 69, 3) := by decide +kernel
theorem dX11_lies_23 : decode cX11_lies 23 = .ok (.ireturn, 1) := by decide +kernel
theorem dX11_lies_24 : decode cX11_lies 24 = .ok (.aload_n 0, 1) := by decide +kernel
theorem dX11_lies_25 : decode cX11_lies 25 = .ok (.getfield 51, 3) := by decide +kernel
end
section
theorem dX11_lies_28 : decode cX11_lies 28 = .ok (.iload_n 1, 1) := by decide +kernel
theorem dX11_lies_29 : decode cX11_lies 29 = .ok (.invokevirtual 286, 3) := by decide +kernel
theorem dX11_lies_32 : decode cX11_lies 32 = .ok (.ireturn, 1) := by decide +kernel
theorem dX11_nearest_0 : decode cX11_nearest 0 = .ok (.iload_n 1, 1) := by decide +kernel
theorem dX11_nearest_1 : decode cX11_nearest 1 = .ok (.iconst 5, 1) := by decide +kernel
theorem dX11_nearest_2 : decode cX11_nearest 2 = .ok (.invokestatic 65, 3) := by decide +kernel
theorem dX11_nearest_5 : decode cX11_nearest 5 = .ok (.ifCond .ne 10, 3) := by decide +kernel
theorem dX11_nearest_8 : decode cX11_nearest 8 = .ok (.aload_n 0, 1) := by decide +kernel
theorem dX11_nearest_9 : decode cX11_nearest 9 = .ok (.bipush (-2), 2) := by decide +kernel
theorem dX11_nearest_11 : decode cX11_nearest 11 = .ok (.invokevirtual 69, 3) := by decide +kernel
theorem dX11_nearest_14 : decode cX11_nearest 14 = .ok (.ireturn, 1) := by decide +kernel
theorem dX11_nearest_15 : decode cX11_nearest 15 = .ok (.aload_n 0, 1) := by decide +kernel
theorem dX11_nearest_16 : decode cX11_nearest 16 = .ok (.getfield 28, 3) := by decide +kernel
theorem dX11_nearest_19 : decode cX11_nearest 19 = .ok (.getfield 44, 3) := by decide +kernel
theorem dX11_nearest_22 : decode cX11_nearest 22 = .ok (.getfield 193, 3) := by decide +kernel
theorem dX11_nearest_25 : decode cX11_nearest 25 = .ok (.ifCond .ne 6, 3) := by decide +kernel
theorem dX11_nearest_28 : decode cX11_nearest 28 = .ok (.bipush (-9), 2) := by decide +kernel
theorem dX11_nearest_30 : decode cX11_nearest 30 = .ok (.ireturn, 1) := by decide +kernel
theorem dX11_nearest_31 : decode cX11_nearest 31 = .ok (.aload_n 0, 1) := by decide +kernel
theorem dX11_nearest_32 : decode cX11_nearest 32 = .ok (.getfield 51, 3) := by decide +kernel
theorem dX11_nearest_35 : decode cX11_nearest 35 = .ok (.invokevirtual 289, 3) := by decide +kernel
theorem dX11_nearest_38 : decode cX11_nearest 38 = .ok (.aload_n 0, 1) := by decide +kernel
theorem dX11_nearest_39 : decode cX11_nearest 39 = .ok (.getfield 51, 3) := by decide +kernel
theorem dX11_nearest_42 : decode cX11_nearest 42 = .ok (.getfield 292, 3) := by decide +kernel
theorem dX11_nearest_45 : decode cX11_nearest 45 = .ok (.istore_n 2, 1) := by decide +kernel
theorem dX11_nearest_46 : decode cX11_nearest 46 = .ok (.aload_n 0, 1) := by decide +kernel
theorem dX11_nearest_47 : decode cX11_nearest 47 = .ok (.getfield 51, 3) := by decide +kernel
theorem dX11_nearest_50 : decode cX11_nearest 50 = .ok (.getfield 295, 3) := by decide +kernel
theorem dX11_nearest_53 : decode cX11_nearest 53 = .ok (.istore_n 3, 1) := by decide +kernel
theorem dX11_nearest_54 : decode cX11_nearest 54 = .ok (.iload_n 1, 1) := by decide +kernel
theorem dX11_nearest_55 : decode cX11_nearest 55 = .ok (.tableswitch 60 0 3 #[29, 31, 33, 52], 29) := by decide +kernel
theorem dX11_nearest_84 : decode cX11_nearest 84 = .ok (.iload_n 2, 1) := by decide +kernel
theorem dX11_nearest_85 : decode cX11_nearest 85 = .ok (.ireturn, 1) := by decide +kernel
theorem dX11_nearest_86 : decode cX11_nearest 86 = .ok (.iload_n 3, 1) := by decide +kernel
theorem dX11_nearest_87 : decode cX11_nearest 87 = .ok (.ireturn, 1) := by decide +kernel
theorem dX11_nearest_88 : decode cX11_nearest 88 = .ok (.iconst 2, 1) := by decide +kernel
theorem dX11_nearest_89 : decode cX11_nearest 89 = .ok (.aload_n 0, 1) := by decide +kernel
theorem dX11_nearest_90 : decode cX11_nearest 90 = .ok (.getfield 28, 3) := by decide +kernel
theorem dX11_nearest_93 : decode cX11_nearest 93 = .ok (.getfield 44, 3) := by decide +kernel
theorem dX11_nearest_96 : decode cX11_nearest 96 = .ok (.getfield 298, 3) := by decide +kernel
theorem dX11_nearest_99 : decode cX11_nearest 99 = .ok (.iload_n 2, 1) := by decide +kernel
theorem dX11_nearest_100 : decode cX11_nearest 100 = .ok (.iaload, 1) := by decide +kernel
theorem dX11_nearest_101 : decode cX11_nearest 101 = .ok (.imul, 1) := by decide +kernel
theorem dX11_nearest_102 : decode cX11_nearest 102 = .ok (.iload_n 3, 1) := by decide +kernel
theorem dX11_nearest_103 : decode cX11_nearest 103 = .ok (.iconst 2, 1) := by decide +kernel
theorem dX11_nearest_104 : decode cX11_nearest 104 = .ok (.irem, 1) := by decide +kernel
theorem dX11_nearest_105 : decode cX11_nearest 105 = .ok (.iadd, 1) := by decide +kernel
theorem dX11_nearest_106 : decode cX11_nearest 106 = .ok (.ireturn, 1) := by decide +kernel
theorem dX11_nearest_107 : decode cX11_nearest 107 = .ok (.aload_n 0, 1) := by decide +kernel
theorem dX11_nearest_108 : decode cX11_nearest 108 = .ok (.getfield 51, 3) := by decide +kernel
theorem dX11_nearest_111 : decode cX11_nearest 111 = .ok (.getfield 299, 3) := by decide +kernel
theorem dX11_nearest_114 : decode cX11_nearest 114 = .ok (.ireturn, 1) := by decide +kernel
theorem dX11_nearest_115 : decode cX11_nearest 115 = .ok (.aload_n 0, 1) := by decide +kernel
theorem dX11_nearest_116 : decode cX11_nearest 116 = .ok (.getfield 28, 3) := by decide +kernel
theorem dX11_nearest_119 : decode cX11_nearest 119 = .ok (.getfield 44, 3) := by decide +kernel
theorem dX11_nearest_122 : decode cX11_nearest 122 = .ok (.getfield 302, 3) := by decide +kernel
theorem dX11_nearest_125 : decode cX11_nearest 125 = .ok (.iload_n 2, 1) := by decide +kernel
theorem dX11_nearest_126 : decode cX11_nearest 126 = .ok (.iaload, 1) := by decide +kernel
theorem dX11_nearest_127 : decode cX11_nearest 127 = .ok (.ireturn, 1) := by decide +kernel
theorem dX11_span_0 : decode cX11_span 0 = .ok (.aload_n 0, 1) := by decide +kernel
theorem dX11_span_1 : decode cX11_span 1 = .ok (.iload_n 1, 1) := by decide +kernel
theorem dX11_span_2 : decode cX11_span 2 = .ok (.invokevirtual 154, 3) := by decide +kernel
theorem dX11_span_5 : decode cX11_span 5 = .ok (.ifCond .ne 9, 3) := by decide +kernel
theorem dX11_span_8 : decode cX11_span 8 = .ok (.aload_n 0, 1) := by decide +kernel
theorem dX11_span_9 : decode cX11_span 9 = .ok (.iconst (-1), 1) := by decide +kernel
theorem dX11_span_10 : decode cX11_span 10 = .ok (.invokevirtual 69, 3) := by decide +kernel
theorem dX11_span_13 : decode cX11_span 13 = .ok (.ireturn, 1) := by decide +kernel
theorem dX11_span_14 : decode cX11_span 14 = .ok (.iload_n 2, 1) := by decide +kernel
theorem dX11_span_15 : decode cX11_span 15 = .ok (.ifCond .ge 10, 3) := by decide +kernel
theorem dX11_span_18 : decode cX11_span 18 = .ok (.aload_n 0, 1) := by decide +kernel
theorem dX11_span_19 : decode cX11_span 19 = .ok (.bipush (-4), 2) := by decide +kernel
theorem dX11_span_21 : decode cX11_span 21 = .ok (.invokevirtual 69, 3) := by decide +kernel
theorem dX11_span_24 : decode cX11_span 24 = .ok (.ireturn, 1) := by decide +kernel
theorem dX11_span_25 : decode cX11_span 25 = .ok (.iload_n 2, 1) := by decide +kernel
theorem dX11_span_26 : decode cX11_span 26 = .ok (.bipush 99, 2) := by decide +kernel
theorem dX11_span_28 : decode cX11_span 28 = .ok (.if_icmp .le 10, 3) := by decide +kernel
theorem dX11_span_31 : decode cX11_span 31 = .ok (.aload_n 0, 1) := by decide +kernel
theorem dX11_span_32 : decode cX11_span 32 = .ok (.bipush (-6), 2) := by decide +kernel
theorem dX11_span_34 : decode cX11_span 34 = .ok (.invokevirtual 69, 3) := by decide +kernel
theorem dX11_span_37 : decode cX11_span 37 = .ok (.ireturn, 1) := by decide +kernel
theorem dX11_span_38 : decode cX11_span 38 = .ok (.aload_n 0, 1) := by decide +kernel
theorem dX11_span_39 : decode cX11_span 39 = .ok (.getfield 51, 3) := by decide +kernel
theorem dX11_span_42 : decode cX11_span 42 = .ok (.iload_n 1, 1) := by decide +kernel
theorem dX11_span_43 : decode cX11_span 43 = .ok (.iload_n 2, 1) := by decide +kernel
theorem dX11_span_44 : decode cX11_span 44 = .ok (.iload_n 3, 1) := by decide +kernel
theorem dX11_span_45 : decode cX11_span 45 = .ok (.invokevirtual 305, 3) := by decide +kernel
theorem dX11_span_48 : decode cX11_span 48 = .ok (.ireturn, 1) := by decide +kernel
theorem dX11_heapOf_0 : decode cX11_heapOf 0 = .ok (.aload_n 0, 1) := by decide +kernel
theorem dX11_heapOf_1 : decode cX11_heapOf 1 = .ok (.getfield 28, 3) := by decide +kernel
theorem dX11_heapOf_4 : decode cX11_heapOf 4 = .ok (.getfield 99, 3) := by decide +kernel
theorem dX11_heapOf_7 : decode cX11_heapOf 7 = .ok (.astore_n 3, 1) := by decide +kernel
theorem dX11_heapOf_8 : decode cX11_heapOf 8 = .ok (.iload_n 1, 1) := by decide +kernel
theorem dX11_heapOf_9 : decode cX11_heapOf 9 = .ok (.aload_n 3, 1) := by decide +kernel
theorem dX11_heapOf_10 : decode cX11_heapOf 10 = .ok (.getfield 103, 3) := by decide +kernel
theorem dX11_heapOf_13 : decode cX11_heapOf 13 = .ok (.invokestatic 65, 3) := by decide +kernel
theorem dX11_heapOf_16 : decode cX11_heapOf 16 = .ok (.ifCond .ne 9, 3) := by decide +kernel
theorem dX11_heapOf_19 : decode cX11_heapOf 19 = .ok (.aload_n 0, 1) := by decide +kernel
theorem dX11_heapOf_20 : decode cX11_heapOf 20 = .ok (.iconst (-1), 1) := by decide +kernel
theorem dX11_heapOf_21 : decode cX11_heapOf 21 = .ok (.invokevirtual 69, 3) := by decide +kernel
theorem dX11_heapOf_24 : decode cX11_heapOf 24 = .ok (.ireturn, 1) := by decide +kernel
theorem dX11_heapOf_25 : decode cX11_heapOf 25 = .ok (.iload_n 2, 1) := by decide +kernel
theorem dX11_heapOf_26 : decode cX11_heapOf 26 = .ok (.tableswitch 89 0 4 #[34, 41, 48, 61, 82], 34) := by decide +kernel
theorem dX11_heapOf_60 : decode cX11_heapOf 60 = .ok (.aload_n 3, 1) := by decide +kernel
theorem dX11_heapOf_61 : decode cX11_heapOf 61 = .ok (.getfield 132, 3) := by decide +kernel
theorem dX11_heapOf_64 : decode cX11_heapOf 64 = .ok (.iload_n 1, 1) := by decide +kernel
theorem dX11_heapOf_65 : decode cX11_heapOf 65 = .ok (.iaload, 1) := by decide +kernel
theorem dX11_heapOf_66 : decode cX11_heapOf 66 = .ok (.ireturn, 1) := by decide +kernel
theorem dX11_heapOf_67 : decode cX11_heapOf 67 = .ok (.aload_n 3, 1) := by decide +kernel
theorem dX11_heapOf_68 : decode cX11_heapOf 68 = .ok (.getfield 129, 3) := by decide +kernel
theorem dX11_heapOf_71 : decode cX11_heapOf 71 = .ok (.iload_n 1, 1) := by decide +kernel
theorem dX11_heapOf_72 : decode cX11_heapOf 72 = .ok (.iaload, 1) := by decide +kernel
theorem dX11_heapOf_73 : decode cX11_heapOf 73 = .ok (.ireturn, 1) := by decide +kernel
theorem dX11_heapOf_74 : decode cX11_heapOf 74 = .ok (.aload_n 3, 1) := by decide +kernel
theorem dX11_heapOf_75 : decode cX11_heapOf 75 = .ok (.iload_n 1, 1) := by decide +kernel
theorem dX11_heapOf_76 : decode cX11_heapOf 76 = .ok (.aload_n 0, 1) := by decide +kernel
theorem dX11_heapOf_77 : decode cX11_heapOf 77 = .ok (.getfield 28, 3) := by decide +kernel
theorem dX11_heapOf_80 : decode cX11_heapOf 80 = .ok (.getfield 109, 3) := by decide +kernel
theorem dX11_heapOf_83 : decode cX11_heapOf 83 = .ok (.invokevirtual 309, 3) := by decide +kernel
theorem dX11_heapOf_86 : decode cX11_heapOf 86 = .ok (.ireturn, 1) := by decide +kernel
theorem dX11_heapOf_87 : decode cX11_heapOf 87 = .ok (.aload_n 3, 1) := by decide +kernel
theorem dX11_heapOf_88 : decode cX11_heapOf 88 = .ok (.iload_n 1, 1) := by decide +kernel
theorem dX11_heapOf_89 : decode cX11_heapOf 89 = .ok (.aload_n 0, 1) := by decide +kernel
theorem dX11_heapOf_90 : decode cX11_heapOf 90 = .ok (.getfield 28, 3) := by decide +kernel
theorem dX11_heapOf_93 : decode cX11_heapOf 93 = .ok (.getfield 109, 3) := by decide +kernel
theorem dX11_heapOf_96 : decode cX11_heapOf 96 = .ok (.invokevirtual 126, 3) := by decide +kernel
theorem dX11_heapOf_99 : decode cX11_heapOf 99 = .ok (.ifCond .eq 7, 3) := by decide +kernel
theorem dX11_heapOf_102 : decode cX11_heapOf 102 = .ok (.iconst 1, 1) := by decide +kernel
theorem dX11_heapOf_103 : decode cX11_heapOf 103 = .ok (.goto 4, 3) := by decide +kernel
theorem dX11_heapOf_106 : decode cX11_heapOf 106 = .ok (.iconst 0, 1) := by decide +kernel
theorem dX11_heapOf_107 : decode cX11_heapOf 107 = .ok (.ireturn, 1) := by decide +kernel
theorem dX11_heapOf_108 : decode cX11_heapOf 108 = .ok (.aload_n 3, 1) := by decide +kernel
theorem dX11_heapOf_109 : decode cX11_heapOf 109 = .ok (.getfield 312, 3) := by decide +kernel
theorem dX11_heapOf_112 : decode cX11_heapOf 112 = .ok (.iload_n 1, 1) := by decide +kernel
theorem dX11_heapOf_113 : decode cX11_heapOf 113 = .ok (.iaload, 1) := by decide +kernel
theorem dX11_heapOf_114 : decode cX11_heapOf 114 = .ok (.ireturn, 1) := by decide +kernel
theorem dX11_heapOf_115 : decode cX11_heapOf 115 = .ok (.aload_n 0, 1) := by decide +kernel
theorem dX11_heapOf_116 : decode cX11_heapOf 116 = .ok (.bipush (-2), 2) := by decide +kernel
theorem dX11_heapOf_118 : decode cX11_heapOf 118 = .ok (.invokevirtual 69, 3) := by decide +kernel
theorem dX11_heapOf_121 : decode cX11_heapOf 121 = .ok (.ireturn, 1) := by decide +kernel
theorem dX11_beaterOf_0 : decode cX11_beaterOf 0 = .ok (.iload_n 1, 1) := by decide +kernel
theorem dX11_beaterOf_1 : decode cX11_beaterOf 1 = .ok (.iconst 4, 1) := by decide +kernel
theorem dX11_beaterOf_2 : decode cX11_beaterOf 2 = .ok (.invokestatic 65, 3) := by decide +kernel
theorem dX11_beaterOf_5 : decode cX11_beaterOf 5 = .ok (.ifCond .ne 9, 3) := by decide +kernel
theorem dX11_beaterOf_8 : decode cX11_beaterOf 8 = .ok (.aload_n 0, 1) := by decide +kernel
theorem dX11_beaterOf_9 : decode cX11_beaterOf 9 = .ok (.iconst (-1), 1) := by decide +kernel
theorem dX11_beaterOf_10 : decode cX11_beaterOf 10 = .ok (.invokevirtual 69, 3) := by decide +kernel
theorem dX11_beaterOf_13 : decode cX11_beaterOf 13 = .ok (.ireturn, 1) := by decide +kernel
theorem dX11_beaterOf_14 : decode cX11_beaterOf 14 = .ok (.aload_n 0, 1) := by decide +kernel
theorem dX11_beaterOf_15 : decode cX11_beaterOf 15 = .ok (.getfield 28, 3) := by decide +kernel
theorem dX11_beaterOf_18 : decode cX11_beaterOf 18 = .ok (.getfield 116, 3) := by decide +kernel
theorem dX11_beaterOf_21 : decode cX11_beaterOf 21 = .ok (.astore_n 3, 1) := by decide +kernel
theorem dX11_beaterOf_22 : decode cX11_beaterOf 22 = .ok (.iload_n 2, 1) := by decide +kernel
theorem dX11_beaterOf_23 : decode cX11_beaterOf 23 = .ok (.tableswitch 70 0 3 #[29, 36, 56, 63], 29) := by decide +kernel
theorem dX11_beaterOf_52 : decode cX11_beaterOf 52 = .ok (.aload_n 3, 1) := by decide +kernel
theorem dX11_beaterOf_53 : decode cX11_beaterOf 53 = .ok (.getfield 315, 3) := by decide +kernel
theorem dX11_beaterOf_56 : decode cX11_beaterOf 56 = .ok (.iload_n 1, 1) := by decide +kernel
theorem dX11_beaterOf_57 : decode cX11_beaterOf 57 = .ok (.iaload, 1) := by decide +kernel
theorem dX11_beaterOf_58 : decode cX11_beaterOf 58 = .ok (.ireturn, 1) := by decide +kernel
theorem dX11_beaterOf_59 : decode cX11_beaterOf 59 = .ok (.aload_n 3, 1) := by decide +kernel
theorem dX11_beaterOf_60 : decode cX11_beaterOf 60 = .ok (.iload_n 1, 1) := by decide +kernel
theorem dX11_beaterOf_61 : decode cX11_beaterOf 61 = .ok (.invokevirtual 120, 3) := by decide +kernel
theorem dX11_beaterOf_64 : decode cX11_beaterOf 64 = .ok (.ifCond .eq 8, 3) := by decide +kernel
theorem dX11_beaterOf_67 : decode cX11_beaterOf 67 = .ok (.bipush (-9), 2) := by decide +kernel
theorem dX11_beaterOf_69 : decode cX11_beaterOf 69 = .ok (.goto 9, 3) := by decide +kernel
theorem dX11_beaterOf_72 : decode cX11_beaterOf 72 = .ok (.aload_n 3, 1) := by decide +kernel
theorem dX11_beaterOf_73 : decode cX11_beaterOf 73 = .ok (.getfield 316, 3) := by decide +kernel
theorem dX11_beaterOf_76 : decode cX11_beaterOf 76 = .ok (.iload_n 1, 1) := by decide +kernel
theorem dX11_beaterOf_77 : decode cX11_beaterOf 77 = .ok (.iaload, 1) := by decide +kernel
theorem dX11_beaterOf_78 : decode cX11_beaterOf 78 = .ok (.ireturn, 1) := by decide +kernel
theorem dX11_beaterOf_79 : decode cX11_beaterOf 79 = .ok (.aload_n 3, 1) := by decide +kernel
theorem dX11_beaterOf_80 : decode cX11_beaterOf 80 = .ok (.getfield 317, 3) := by decide +kernel
theorem dX11_beaterOf_83 : decode cX11_beaterOf 83 = .ok (.iload_n 1, 1) := by decide +kernel
theorem dX11_beaterOf_84 : decode cX11_beaterOf 84 = .ok (.iaload, 1) := by decide +kernel
theorem dX11_beaterOf_85 : decode cX11_beaterOf 85 = .ok (.ireturn, 1) := by decide +kernel
theorem dX11_beaterOf_86 : decode cX11_beaterOf 86 = .ok (.aload_n 3, 1) := by decide +kernel
theorem dX11_beaterOf_87 : decode cX11_beaterOf 87 = .ok (.getfield 320, 3) := by decide +kernel
theorem dX11_beaterOf_90 : decode cX11_beaterOf 90 = .ok (.iload_n 1, 1) := by decide +kernel
theorem dX11_beaterOf_91 : decode cX11_beaterOf 91 = .ok (.iaload, 1) := by decide +kernel
theorem dX11_beaterOf_92 : decode cX11_beaterOf 92 = .ok (.ireturn, 1) := by decide +kernel
theorem dX11_beaterOf_93 : decode cX11_beaterOf 93 = .ok (.aload_n 0, 1) := by decide +kernel
theorem dX11_beaterOf_94 : decode cX11_beaterOf 94 = .ok (.bipush (-2), 2) := by decide +kernel
theorem dX11_beaterOf_96 : decode cX11_beaterOf 96 = .ok (.invokevirtual 69, 3) := by decide +kernel
theorem dX11_beaterOf_99 : decode cX11_beaterOf 99 = .ok (.ireturn, 1) := by decide +kernel
theorem dX11_vatOf_0 : decode cX11_vatOf 0 = .ok (.iload_n 1, 1) := by decide +kernel
theorem dX11_vatOf_1 : decode cX11_vatOf 1 = .ok (.iconst 3, 1) := by decide +kernel
theorem dX11_vatOf_2 : decode cX11_vatOf 2 = .ok (.invokestatic 65, 3) := by decide +kernel
theorem dX11_vatOf_5 : decode cX11_vatOf 5 = .ok (.ifCond .ne 9, 3) := by decide +kernel
theorem dX11_vatOf_8 : decode cX11_vatOf 8 = .ok (.aload_n 0, 1) := by decide +kernel
theorem dX11_vatOf_9 : decode cX11_vatOf 9 = .ok (.iconst (-1), 1) := by decide +kernel
theorem dX11_vatOf_10 : decode cX11_vatOf 10 = .ok (.invokevirtual 69, 3) := by decide +kernel
theorem dX11_vatOf_13 : decode cX11_vatOf 13 = .ok (.ireturn, 1) := by decide +kernel
theorem dX11_vatOf_14 : decode cX11_vatOf 14 = .ok (.aload_n 0, 1) := by decide +kernel
theorem dX11_vatOf_15 : decode cX11_vatOf 15 = .ok (.getfield 28, 3) := by decide +kernel
theorem dX11_vatOf_18 : decode cX11_vatOf 18 = .ok (.getfield 157, 3) := by decide +kernel
theorem dX11_vatOf_21 : decode cX11_vatOf 21 = .ok (.astore_n 3, 1) := by decide +kernel
theorem dX11_vatOf_22 : decode cX11_vatOf 22 = .ok (.iload_n 2, 1) := by decide +kernel
theorem dX11_vatOf_23 : decode cX11_vatOf 23 = .ok (.tableswitch 57 0 3 #[29, 36, 43, 50], 29) := by decide +kernel
theorem dX11_vatOf_52 : decode cX11_vatOf 52 = .ok (.aload_n 3, 1) := by decide +kernel
theorem dX11_vatOf_53 : decode cX11_vatOf 53 = .ok (.getfield 181, 3) := by decide +kernel
theorem dX11_vatOf_56 : decode cX11_vatOf 56 = .ok (.iload_n 1, 1) := by decide +kernel
theorem dX11_vatOf_57 : decode cX11_vatOf 57 = .ok (.iaload, 1) := by decide +kernel
theorem dX11_vatOf_58 : decode cX11_vatOf 58 = .ok (.ireturn, 1) := by decide +kernel
theorem dX11_vatOf_59 : decode cX11_vatOf 59 = .ok (.aload_n 3, 1) := by decide +kernel
theorem dX11_vatOf_60 : decode cX11_vatOf 60 = .ok (.getfield 184, 3) := by decide +kernel
theorem dX11_vatOf_63 : decode cX11_vatOf 63 = .ok (.iload_n 1, 1) := by decide +kernel
theorem dX11_vatOf_64 : decode cX11_vatOf 64 = .ok (.iaload, 1) := by decide +kernel
theorem dX11_vatOf_65 : decode cX11_vatOf 65 = .ok (.ireturn, 1) := by decide +kernel
theorem dX11_vatOf_66 : decode cX11_vatOf 66 = .ok (.aload_n 3, 1) := by decide +kernel
theorem dX11_vatOf_67 : decode cX11_vatOf 67 = .ok (.getfield 175, 3) := by decide +kernel
theorem dX11_vatOf_70 : decode cX11_vatOf 70 = .ok (.iload_n 1, 1) := by decide +kernel
theorem dX11_vatOf_71 : decode cX11_vatOf 71 = .ok (.iaload, 1) := by decide +kernel
theorem dX11_vatOf_72 : decode cX11_vatOf 72 = .ok (.ireturn, 1) := by decide +kernel
theorem dX11_vatOf_73 : decode cX11_vatOf 73 = .ok (.aload_n 3, 1) := by decide +kernel
theorem dX11_vatOf_74 : decode cX11_vatOf 74 = .ok (.getfield 323, 3) := by decide +kernel
theorem dX11_vatOf_77 : decode cX11_vatOf 77 = .ok (.iload_n 1, 1) := by decide +kernel
theorem dX11_vatOf_78 : decode cX11_vatOf 78 = .ok (.iaload, 1) := by decide +kernel
theorem dX11_vatOf_79 : decode cX11_vatOf 79 = .ok (.ireturn, 1) := by decide +kernel
theorem dX11_vatOf_80 : decode cX11_vatOf 80 = .ok (.aload_n 0, 1) := by decide +kernel
theorem dX11_vatOf_81 : decode cX11_vatOf 81 = .ok (.bipush (-2), 2) := by decide +kernel
theorem dX11_vatOf_83 : decode cX11_vatOf 83 = .ok (.invokevirtual 69, 3) := by decide +kernel
theorem dX11_vatOf_86 : decode cX11_vatOf 86 = .ok (.ireturn, 1) := by decide +kernel
theorem dX11_postOf_0 : decode cX11_postOf 0 = .ok (.aload_n 0, 1) := by decide +kernel
theorem dX11_postOf_1 : decode cX11_postOf 1 = .ok (.getfield 28, 3) := by decide +kernel
theorem dX11_postOf_4 : decode cX11_postOf 4 = .ok (.getfield 44, 3) := by decide +kernel
theorem dX11_postOf_7 : decode cX11_postOf 7 = .ok (.astore_n 3, 1) := by decide +kernel
theorem dX11_postOf_8 : decode cX11_postOf 8 = .ok (.iload_n 1, 1) := by decide +kernel
theorem dX11_postOf_9 : decode cX11_postOf 9 = .ok (.aload_n 3, 1) := by decide +kernel
theorem dX11_postOf_10 : decode cX11_postOf 10 = .ok (.getfield 193, 3) := by decide +kernel
theorem dX11_postOf_13 : decode cX11_postOf 13 = .ok (.invokestatic 65, 3) := by decide +kernel
theorem dX11_postOf_16 : decode cX11_postOf 16 = .ok (.ifCond .ne 9, 3) := by decide +kernel
theorem dX11_postOf_19 : decode cX11_postOf 19 = .ok (.aload_n 0, 1) := by decide +kernel
theorem dX11_postOf_20 : decode cX11_postOf 20 = .ok (.iconst (-1), 1) := by decide +kernel
theorem dX11_postOf_21 : decode cX11_postOf 21 = .ok (.invokevirtual 69, 3) := by decide +kernel
theorem dX11_postOf_24 : decode cX11_postOf 24 = .ok (.ireturn, 1) := by decide +kernel
theorem dX11_postOf_25 : decode cX11_postOf 25 = .ok (.iload_n 2, 1) := by decide +kernel
theorem dX11_postOf_26 : decode cX11_postOf 26 = .ok (.tableswitch 101 0 7 #[46, 52, 59, 66, 73, 80, 87, 94], 46) := by decide +kernel
theorem dX11_postOf_72 : decode cX11_postOf 72 = .ok (.aload_n 3, 1) := by decide +kernel
theorem dX11_postOf_73 : decode cX11_postOf 73 = .ok (.iload_n 1, 1) := by decide +kernel
theorem dX11_postOf_74 : decode cX11_postOf 74 = .ok (.invokevirtual 196, 3) := by decide +kernel
theorem dX11_postOf_77 : decode cX11_postOf 77 = .ok (.ireturn, 1) := by decide +kernel
theorem dX11_postOf_78 : decode cX11_postOf 78 = .ok (.aload_n 3, 1) := by decide +kernel
theorem dX11_postOf_79 : decode cX11_postOf 79 = .ok (.getfield 298, 3) := by decide +kernel
theorem dX11_postOf_82 : decode cX11_postOf 82 = .ok (.iload_n 1, 1) := by decide +kernel
theorem dX11_postOf_83 : decode cX11_postOf 83 = .ok (.iaload, 1) := by decide +kernel
theorem dX11_postOf_84 : decode cX11_postOf 84 = .ok (.ireturn, 1) := by decide +kernel
theorem dX11_postOf_85 : decode cX11_postOf 85 = .ok (.aload_n 3, 1) := by decide +kernel
theorem dX11_postOf_86 : decode cX11_postOf 86 = .ok (.getfield 326, 3) := by decide +kernel
theorem dX11_postOf_89 : decode cX11_postOf 89 = .ok (.iload_n 1, 1) := by decide +kernel
theorem dX11_postOf_90 : decode cX11_postOf 90 = .ok (.iaload, 1) := by decide +kernel
theorem dX11_postOf_91 : decode cX11_postOf 91 = .ok (.ireturn, 1) := by decide +kernel
theorem dX11_postOf_92 : decode cX11_postOf 92 = .ok (.aload_n 3, 1) := by decide +kernel
theorem dX11_postOf_93 : decode cX11_postOf 93 = .ok (.getfield 302, 3) := by decide +kernel
theorem dX11_postOf_96 : decode cX11_postOf 96 = .ok (.iload_n 1, 1) := by decide +kernel
theorem dX11_postOf_97 : decode cX11_postOf 97 = .ok (.iaload, 1) := by decide +kernel
theorem dX11_postOf_98 : decode cX11_postOf 98 = .ok (.ireturn, 1) := by decide +kernel
theorem dX11_postOf_99 : decode cX11_postOf 99 = .ok (.aload_n 3, 1) := by decide +kernel
theorem dX11_postOf_100 : decode cX11_postOf 100 = .ok (.getfield 327, 3) := by decide +kernel
theorem dX11_postOf_103 : decode cX11_postOf 103 = .ok (.iload_n 1, 1) := by decide +kernel
theorem dX11_postOf_104 : decode cX11_postOf 104 = .ok (.iaload, 1) := by decide +kernel
theorem dX11_postOf_105 : decode cX11_postOf 105 = .ok (.ireturn, 1) := by decide +kernel
theorem dX11_postOf_106 : decode cX11_postOf 106 = .ok (.aload_n 3, 1) := by decide +kernel
theorem dX11_postOf_107 : decode cX11_postOf 107 = .ok (.getfield 330, 3) := by decide +kernel
theorem dX11_postOf_110 : decode cX11_postOf 110 = .ok (.iload_n 1, 1) := by decide +kernel
theorem dX11_postOf_111 : decode cX11_postOf 111 = .ok (.iaload, 1) := by decide +kernel
theorem dX11_postOf_112 : decode cX11_postOf 112 = .ok (.ireturn, 1) := by decide +kernel
theorem dX11_postOf_113 : decode cX11_postOf 113 = .ok (.aload_n 3, 1) := by decide +kernel
theorem dX11_postOf_114 : decode cX11_postOf 114 = .ok (.getfield 333, 3) := by decide +kernel
theorem dX11_postOf_117 : decode cX11_postOf 117 = .ok (.iload_n 1, 1) := by decide +kernel
theorem dX11_postOf_118 : decode cX11_postOf 118 = .ok (.iaload, 1) := by decide +kernel
theorem dX11_postOf_119 : decode cX11_postOf 119 = .ok (.ireturn, 1) := by decide +kernel
theorem dX11_postOf_120 : decode cX11_postOf 120 = .ok (.aload_n 3, 1) := by decide +kernel
theorem dX11_postOf_121 : decode cX11_postOf 121 = .ok (.getfield 336, 3) := by decide +kernel
theorem dX11_postOf_124 : decode cX11_postOf 124 = .ok (.iload_n 1, 1) := by decide +kernel
theorem dX11_postOf_125 : decode cX11_postOf 125 = .ok (.iaload, 1) := by decide +kernel
theorem dX11_postOf_126 : decode cX11_postOf 126 = .ok (.ireturn, 1) := by decide +kernel
theorem dX11_postOf_127 : decode cX11_postOf 127 = .ok (.aload_n 0, 1) := by decide +kernel
theorem dX11_postOf_128 : decode cX11_postOf 128 = .ok (.bipush (-2), 2) := by decide +kernel
theorem dX11_postOf_130 : decode cX11_postOf 130 = .ok (.invokevirtual 69, 3) := by decide +kernel
theorem dX11_postOf_133 : decode cX11_postOf 133 = .ok (.ireturn, 1) := by decide +kernel
theorem dX11_orderOf_0 : decode cX11_orderOf 0 = .ok (.iload_n 1, 1) := by decide +kernel
theorem dX11_orderOf_1 : decode cX11_orderOf 1 = .ok (.aload_n 0, 1) := by decide +kernel
theorem dX11_orderOf_2 : decode cX11_orderOf 2 = .ok (.getfield 38, 3) := by decide +kernel
theorem dX11_orderOf_5 : decode cX11_orderOf 5 = .ok (.getfield 205, 3) := by decide +kernel
theorem dX11_orderOf_8 : decode cX11_orderOf 8 = .ok (.invokestatic 65, 3) := by decide +kernel
theorem dX11_orderOf_11 : decode cX11_orderOf 11 = .ok (.ifCond .ne 9, 3) := by decide +kernel
theorem dX11_orderOf_14 : decode cX11_orderOf 14 = .ok (.aload_n 0, 1) := by decide +kernel
theorem dX11_orderOf_15 : decode cX11_orderOf 15 = .ok (.iconst (-1), 1) := by decide +kernel
theorem dX11_orderOf_16 : decode cX11_orderOf 16 = .ok (.invokevirtual 69, 3) := by decide +kernel
theorem dX11_orderOf_19 : decode cX11_orderOf 19 = .ok (.ireturn, 1) := by decide +kernel
theorem dX11_orderOf_20 : decode cX11_orderOf 20 = .ok (.iload_n 2, 1) := by decide +kernel
theorem dX11_orderOf_21 : decode cX11_orderOf 21 = .ok (.tableswitch 99 0 5 #[39, 49, 59, 69, 79, 89], 39) := by decide +kernel
theorem dX11_orderOf_60 : decode cX11_orderOf 60 = .ok (.aload_n 0, 1) := by decide +kernel
theorem dX11_orderOf_61 : decode cX11_orderOf 61 = .ok (.getfield 38, 3) := by decide +kernel
theorem dX11_orderOf_64 : decode cX11_orderOf 64 = .ok (.getfield 212, 3) := by decide +kernel
theorem dX11_orderOf_67 : decode cX11_orderOf 67 = .ok (.iload_n 1, 1) := by decide +kernel
theorem dX11_orderOf_68 : decode cX11_orderOf 68 = .ok (.iaload, 1) := by decide +kernel
theorem dX11_orderOf_69 : decode cX11_orderOf 69 = .ok (.ireturn, 1) := by decide +kernel
theorem dX11_orderOf_70 : decode cX11_orderOf 70 = .ok (.aload_n 0, 1) := by decide +kernel
theorem dX11_orderOf_71 : decode cX11_orderOf 71 = .ok (.getfield 38, 3) := by decide +kernel
theorem dX11_orderOf_74 : decode cX11_orderOf 74 = .ok (.getfield 213, 3) := by decide +kernel
theorem dX11_orderOf_77 : decode cX11_orderOf 77 = .ok (.iload_n 1, 1) := by decide +kernel
theorem dX11_orderOf_78 : decode cX11_orderOf 78 = .ok (.iaload, 1) := by decide +kernel
theorem dX11_orderOf_79 : decode cX11_orderOf 79 = .ok (.ireturn, 1) := by decide +kernel
theorem dX11_orderOf_80 : decode cX11_orderOf 80 = .ok (.aload_n 0, 1) := by decide +kernel
theorem dX11_orderOf_81 : decode cX11_orderOf 81 = .ok (.getfield 38, 3) := by decide +kernel
theorem dX11_orderOf_84 : decode cX11_orderOf 84 = .ok (.getfield 219, 3) := by decide +kernel
theorem dX11_orderOf_87 : decode cX11_orderOf 87 = .ok (.iload_n 1, 1) := by decide +kernel
theorem dX11_orderOf_88 : decode cX11_orderOf 88 = .ok (.iaload, 1) := by decide +kernel
theorem dX11_orderOf_89 : decode cX11_orderOf 89 = .ok (.ireturn, 1) := by decide +kernel
theorem dX11_orderOf_90 : decode cX11_orderOf 90 = .ok (.aload_n 0, 1) := by decide +kernel
theorem dX11_orderOf_91 : decode cX11_orderOf 91 = .ok (.getfield 38, 3) := by decide +kernel
theorem dX11_orderOf_94 : decode cX11_orderOf 94 = .ok (.getfield 339, 3) := by decide +kernel
theorem dX11_orderOf_97 : decode cX11_orderOf 97 = .ok (.iload_n 1, 1) := by decide +kernel
theorem dX11_orderOf_98 : decode cX11_orderOf 98 = .ok (.iaload, 1) := by decide +kernel
theorem dX11_orderOf_99 : decode cX11_orderOf 99 = .ok (.ireturn, 1) := by decide +kernel
theorem dX11_orderOf_100 : decode cX11_orderOf 100 = .ok (.aload_n 0, 1) := by decide +kernel
theorem dX11_orderOf_101 : decode cX11_orderOf 101 = .ok (.getfield 38, 3) := by decide +kernel
theorem dX11_orderOf_104 : decode cX11_orderOf 104 = .ok (.getfield 342, 3) := by decide +kernel
theorem dX11_orderOf_107 : decode cX11_orderOf 107 = .ok (.iload_n 1, 1) := by decide +kernel
theorem dX11_orderOf_108 : decode cX11_orderOf 108 = .ok (.iaload, 1) := by decide +kernel
theorem dX11_orderOf_109 : decode cX11_orderOf 109 = .ok (.ireturn, 1) := by decide +kernel
theorem dX11_orderOf_110 : decode cX11_orderOf 110 = .ok (.aload_n 0, 1) := by decide +kernel
theorem dX11_orderOf_111 : decode cX11_orderOf 111 = .ok (.getfield 38, 3) := by decide +kernel
theorem dX11_orderOf_114 : decode cX11_orderOf 114 = .ok (.getfield 225, 3) := by decide +kernel
theorem dX11_orderOf_117 : decode cX11_orderOf 117 = .ok (.iload_n 1, 1) := by decide +kernel
theorem dX11_orderOf_118 : decode cX11_orderOf 118 = .ok (.iaload, 1) := by decide +kernel
theorem dX11_orderOf_119 : decode cX11_orderOf 119 = .ok (.ireturn, 1) := by decide +kernel
theorem dX11_orderOf_120 : decode cX11_orderOf 120 = .ok (.aload_n 0, 1) := by decide +kernel
theorem dX11_orderOf_121 : decode cX11_orderOf 121 = .ok (.bipush (-2), 2) := by decide +kernel
theorem dX11_orderOf_123 : decode cX11_orderOf 123 = .ok (.invokevirtual 69, 3) := by decide +kernel
theorem dX11_orderOf_126 : decode cX11_orderOf 126 = .ok (.ireturn, 1) := by decide +kernel
theorem dX11_sheets_0 : decode cX11_sheets 0 = .ok (.iload_n 1, 1) := by decide +kernel
theorem dX11_sheets_1 : decode cX11_sheets 1 = .ok (.bipush 9, 2) := by decide +kernel
theorem dX11_sheets_3 : decode cX11_sheets 3 = .ok (.invokestatic 65, 3) := by decide +kernel
theorem dX11_sheets_6 : decode cX11_sheets 6 = .ok (.ifCond .eq 10, 3) := by decide +kernel
theorem dX11_sheets_9 : decode cX11_sheets 9 = .ok (.iload_n 2, 1) := by decide +kernel
theorem dX11_sheets_10 : decode cX11_sheets 10 = .ok (.invokestatic 139, 3) := by decide +kernel
theorem dX11_sheets_13 : decode cX11_sheets 13 = .ok (.ifCond .ne 9, 3) := by decide +kernel
theorem dX11_sheets_16 : decode cX11_sheets 16 = .ok (.aload_n 0, 1) := by decide +kernel
theorem dX11_sheets_17 : decode cX11_sheets 17 = .ok (.iconst (-1), 1) := by decide +kernel
theorem dX11_sheets_18 : decode cX11_sheets 18 = .ok (.invokevirtual 69, 3) := by decide +kernel
theorem dX11_sheets_21 : decode cX11_sheets 21 = .ok (.ireturn, 1) := by decide +kernel
theorem dX11_sheets_22 : decode cX11_sheets 22 = .ok (.aload_n 0, 1) := by decide +kernel
theorem dX11_sheets_23 : decode cX11_sheets 23 = .ok (.getfield 59, 3) := by decide +kernel
theorem dX11_sheets_26 : decode cX11_sheets 26 = .ok (.iload_n 1, 1) := by decide +kernel
theorem dX11_sheets_27 : decode cX11_sheets 27 = .ok (.iload_n 2, 1) := by decide +kernel
theorem dX11_sheets_28 : decode cX11_sheets 28 = .ok (.invokestatic 216, 3) := by decide +kernel
theorem dX11_sheets_31 : decode cX11_sheets 31 = .ok (.iaload, 1) := by decide +kernel
theorem dX11_sheets_32 : decode cX11_sheets 32 = .ok (.ireturn, 1) := by decide +kernel
theorem dX11_count_0 : decode cX11_count 0 = .ok (.iload_n 1, 1) := by decide +kernel
theorem dX11_count_1 : decode cX11_count 1 = .ok (.bipush 11, 2) := by decide +kernel
theorem dX11_count_3 : decode cX11_count 3 = .ok (.if_icmp .lt 19, 3) := by decide +kernel
theorem dX11_count_6 : decode cX11_count 6 = .ok (.iload_n 1, 1) := by decide +kernel
theorem dX11_count_7 : decode cX11_count 7 = .ok (.bipush 16, 2) := by decide +kernel
theorem dX11_count_9 : decode cX11_count 9 = .ok (.if_icmp .gt 13, 3) := by decide +kernel
theorem dX11_count_12 : decode cX11_count 12 = .ok (.aload_n 0, 1) := by decide +kernel
theorem dX11_count_13 : decode cX11_count 13 = .ok (.getfield 62, 3) := by decide +kernel
theorem dX11_count_16 : decode cX11_count 16 = .ok (.iload_n 1, 1) := by decide +kernel
theorem dX11_count_17 : decode cX11_count 17 = .ok (.bipush 10, 2) := by decide +kernel
theorem dX11_count_19 : decode cX11_count 19 = .ok (.isub, 1) := by decide +kernel
theorem dX11_count_20 : decode cX11_count 20 = .ok (.iaload, 1) := by decide +kernel
theorem dX11_count_21 : decode cX11_count 21 = .ok (.ireturn, 1) := by decide +kernel
theorem dX11_count_22 : decode cX11_count 22 = .ok (.iload_n 1, 1) := by decide +kernel
theorem dX11_count_23 : decode cX11_count 23 = .ok (.bipush 20, 2) := by decide +kernel
theorem dX11_count_25 : decode cX11_count 25 = .ok (.if_icmp .lt 22, 3) := by decide +kernel
theorem dX11_count_28 : decode cX11_count 28 = .ok (.iload_n 1, 1) := by decide +kernel
theorem dX11_count_29 : decode cX11_count 29 = .ok (.bipush 29, 2) := by decide +kernel
theorem dX11_count_31 : decode cX11_count 31 = .ok (.if_icmp .ge 16, 3) := by decide +kernel
theorem dX11_count_34 : decode cX11_count 34 = .ok (.aload_n 0, 1) := by decide +kernel
theorem dX11_count_35 : decode cX11_count 35 = .ok (.getfield 19, 3) := by decide +kernel
theorem dX11_count_38 : decode cX11_count 38 = .ok (.getfield 96, 3) := by decide +kernel
theorem dX11_count_41 : decode cX11_count 41 = .ok (.iload_n 1, 1) := by decide +kernel
theorem dX11_count_42 : decode cX11_count 42 = .ok (.bipush 20, 2) := by decide +kernel
theorem dX11_count_44 : decode cX11_count 44 = .ok (.isub, 1) := by decide +kernel
theorem dX11_count_45 : decode cX11_count 45 = .ok (.iaload, 1) := by decide +kernel
theorem dX11_count_46 : decode cX11_count 46 = .ok (.ireturn, 1) := by decide +kernel
theorem dX11_count_47 : decode cX11_count 47 = .ok (.iload_n 1, 1) := by decide +kernel
theorem dX11_count_48 : decode cX11_count 48 = .ok (.bipush 30, 2) := by decide +kernel
theorem dX11_count_50 : decode cX11_count 50 = .ok (.if_icmp .lt 22, 3) := by decide +kernel
theorem dX11_count_53 : decode cX11_count 53 = .ok (.iload_n 1, 1) := by decide +kernel
theorem dX11_count_54 : decode cX11_count 54 = .ok (.bipush 39, 2) := by decide +kernel
theorem dX11_count_56 : decode cX11_count 56 = .ok (.if_icmp .ge 16, 3) := by decide +kernel
theorem dX11_count_59 : decode cX11_count 59 = .ok (.aload_n 0, 1) := by decide +kernel
theorem dX11_count_60 : decode cX11_count 60 = .ok (.getfield 28, 3) := by decide +kernel
theorem dX11_count_63 : decode cX11_count 63 = .ok (.getfield 345, 3) := by decide +kernel
theorem dX11_count_66 : decode cX11_count 66 = .ok (.iload_n 1, 1) := by decide +kernel
theorem dX11_count_67 : decode cX11_count 67 = .ok (.bipush 30, 2) := by decide +kernel
theorem dX11_count_69 : decode cX11_count 69 = .ok (.isub, 1) := by decide +kernel
theorem dX11_count_70 : decode cX11_count 70 = .ok (.iaload, 1) := by decide +kernel
theorem dX11_count_71 : decode cX11_count 71 = .ok (.ireturn, 1) := by decide +kernel
theorem dX11_count_72 : decode cX11_count 72 = .ok (.iload_n 1, 1) := by decide +kernel
theorem dX11_count_73 : decode cX11_count 73 = .ok (.tableswitch 150 0 9 #[55, 63, 74, 85, 96, 104, 112, 117, 128, 139], 55) := by decide +kernel
theorem dX11_count_128 : decode cX11_count 128 = .ok (.aload_n 0, 1) := by decide +kernel
theorem dX11_count_129 : decode cX11_count 129 = .ok (.getfield 28, 3) := by decide +kernel
theorem dX11_count_132 : decode cX11_count 132 = .ok (.getfield 109, 3) := by decide +kernel
theorem dX11_count_135 : decode cX11_count 135 = .ok (.ireturn, 1) := by decide +kernel
theorem dX11_count_136 : decode cX11_count 136 = .ok (.aload_n 0, 1) := by decide +kernel
theorem dX11_count_137 : decode cX11_count 137 = .ok (.getfield 28, 3) := by decide +kernel
theorem dX11_count_140 : decode cX11_count 140 = .ok (.getfield 99, 3) := by decide +kernel
theorem dX11_count_143 : decode cX11_count 143 = .ok (.getfield 103, 3) := by decide +kernel
theorem dX11_count_146 : decode cX11_count 146 = .ok (.ireturn, 1) := by decide +kernel
theorem dX11_count_147 : decode cX11_count 147 = .ok (.aload_n 0, 1) := by decide +kernel
theorem dX11_count_148 : decode cX11_count 148 = .ok (.getfield 28, 3) := by decide +kernel
theorem dX11_count_151 : decode cX11_count 151 = .ok (.getfield 142, 3) := by decide +kernel
theorem dX11_count_154 : decode cX11_count 154 = .ok (.getfield 146, 3) := by decide +kernel
theorem dX11_count_157 : decode cX11_count 157 = .ok (.ireturn, 1) := by decide +kernel
theorem dX11_count_158 : decode cX11_count 158 = .ok (.aload_n 0, 1) := by decide +kernel
theorem dX11_count_159 : decode cX11_count 159 = .ok (.getfield 28, 3) := by decide +kernel
theorem dX11_count_162 : decode cX11_count 162 = .ok (.getfield 44, 3) := by decide +kernel
theorem dX11_count_165 : decode cX11_count 165 = .ok (.getfield 193, 3) := by decide +kernel
theorem dX11_count_168 : decode cX11_count 168 = .ok (.ireturn, 1) := by decide +kernel
theorem dX11_count_169 : decode cX11_count 169 = .ok (.aload_n 0, 1) := by decide +kernel
theorem dX11_count_170 : decode cX11_count 170 = .ok (.getfield 38, 3) := by decide +kernel
theorem dX11_count_173 : decode cX11_count 173 = .ok (.getfield 205, 3) := by decide +kernel
theorem dX11_count_176 : decode cX11_count 176 = .ok (.ireturn, 1) := by decide +kernel
theorem dX11_count_177 : decode cX11_count 177 = .ok (.aload_n 0, 1) := by decide +kernel
theorem dX11_count_178 : decode cX11_count 178 = .ok (.getfield 235, 3) := by decide +kernel
theorem dX11_count_181 : decode cX11_count 181 = .ok (.ldc 211, 2) := by decide +kernel
theorem dX11_count_183 : decode cX11_count 183 = .ok (.iadd, 1) := by decide +kernel
theorem dX11_count_184 : decode cX11_count 184 = .ok (.ireturn, 1) := by decide +kernel
theorem dX11_count_185 : decode cX11_count 185 = .ok (.aload_n 0, 1) := by decide +kernel
theorem dX11_count_186 : decode cX11_count 186 = .ok (.getfield 190, 3) := by decide +kernel
theorem dX11_count_189 : decode cX11_count 189 = .ok (.ireturn, 1) := by decide +kernel
theorem dX11_count_190 : decode cX11_count 190 = .ok (.aload_n 0, 1) := by decide +kernel
theorem dX11_count_191 : decode cX11_count 191 = .ok (.getfield 28, 3) := by decide +kernel
theorem dX11_count_194 : decode cX11_count 194 = .ok (.getfield 157, 3) := by decide +kernel
theorem dX11_count_197 : decode cX11_count 197 = .ok (.getfield 259, 3) := by decide +kernel
theorem dX11_count_200 : decode cX11_count 200 = .ok (.ireturn, 1) := by decide +kernel
theorem dX11_count_201 : decode cX11_count 201 = .ok (.aload_n 0, 1) := by decide +kernel
theorem dX11_count_202 : decode cX11_count 202 = .ok (.getfield 28, 3) := by decide +kernel
theorem dX11_count_205 : decode cX11_count 205 = .ok (.getfield 99, 3) := by decide +kernel
theorem dX11_count_208 : decode cX11_count 208 = .ok (.getfield 262, 3) := by decide +kernel
theorem dX11_count_211 : decode cX11_count 211 = .ok (.ireturn, 1) := by decide +kernel
theorem dX11_count_212 : decode cX11_count 212 = .ok (.aload_n 0, 1) := by decide +kernel
theorem dX11_count_213 : decode cX11_count 213 = .ok (.getfield 28, 3) := by decide +kernel
theorem dX11_count_216 : decode cX11_count 216 = .ok (.getfield 44, 3) := by decide +kernel
theorem dX11_count_219 : decode cX11_count 219 = .ok (.invokevirtual 348, 3) := by decide +kernel
theorem dX11_count_222 : decode cX11_count 222 = .ok (.ireturn, 1) := by decide +kernel
theorem dX11_count_223 : decode cX11_count 223 = .ok (.bipush (-9), 2) := by decide +kernel
theorem dX11_count_225 : decode cX11_count 225 = .ok (.ireturn, 1) := by decide +kernel
theorem dX11_refuse_0 : decode cX11_refuse 0 = .ok (.aload_n 0, 1) := by decide +kernel
theorem dX11_refuse_1 : decode cX11_refuse 1 = .ok (.getfield 62, 3) := by decide +kernel
theorem dX11_refuse_4 : decode cX11_refuse 4 = .ok (.iload_n 1, 1) := by decide +kernel
theorem dX11_refuse_5 : decode cX11_refuse 5 = .ok (.ineg, 1) := by decide +kernel
theorem dX11_refuse_6 : decode cX11_refuse 6 = .ok (.dup2, 1) := by decide +kernel
theorem dX11_refuse_7 : decode cX11_refuse 7 = .ok (.iaload, 1) := by decide +kernel
theorem dX11_refuse_8 : decode cX11_refuse 8 = .ok (.iconst 1, 1) := by decide +kernel
theorem dX11_refuse_9 : decode cX11_refuse 9 = .ok (.iadd, 1) := by decide +kernel
theorem dX11_refuse_10 : decode cX11_refuse 10 = .ok (.iastore, 1) := by decide +kernel
theorem dX11_refuse_11 : decode cX11_refuse 11 = .ok (.iload_n 1, 1) := by decide +kernel
theorem dX11_refuse_12 : decode cX11_refuse 12 = .ok (.ireturn, 1) := by decide +kernel
theorem dX11_sizePost_0 : decode cX11_sizePost 0 = .ok (.aload_n 0, 1) := by decide +kernel
theorem dX11_sizePost_1 : decode cX11_sizePost 1 = .ok (.dup, 1) := by decide +kernel
theorem dX11_sizePost_2 : decode cX11_sizePost 2 = .ok (.getfield 190, 3) := by decide +kernel
theorem dX11_sizePost_5 : decode cX11_sizePost 5 = .ok (.iconst 1, 1) := by decide +kernel
theorem dX11_sizePost_6 : decode cX11_sizePost 6 = .ok (.isub, 1) := by decide +kernel
theorem dX11_sizePost_7 : decode cX11_sizePost 7 = .ok (.putfield 190, 3) := by decide +kernel
theorem dX11_sizePost_10 : decode cX11_sizePost 10 = .ok (.aload_n 0, 1) := by decide +kernel
theorem dX11_sizePost_11 : decode cX11_sizePost 11 = .ok (.getfield 28, 3) := by decide +kernel
theorem dX11_sizePost_14 : decode cX11_sizePost 14 = .ok (.getfield 44, 3) := by decide +kernel
theorem dX11_sizePost_17 : decode cX11_sizePost 17 = .ok (.iload_n 1, 1) := by decide +kernel
theorem dX11_sizePost_18 : decode cX11_sizePost 18 = .ok (.invokevirtual 351, 3) := by decide +kernel
theorem dX11_sizePost_21 : decode cX11_sizePost 21 = .ok (.istore_n 2, 1) := by decide +kernel
theorem dX11_sizePost_22 : decode cX11_sizePost 22 = .ok (.aload_n 0, 1) := by decide +kernel
theorem dX11_sizePost_23 : decode cX11_sizePost 23 = .ok (.getfield 28, 3) := by decide +kernel
theorem dX11_sizePost_26 : decode cX11_sizePost 26 = .ok (.getfield 142, 3) := by decide +kernel
theorem dX11_sizePost_29 : decode cX11_sizePost 29 = .ok (.getfield 354, 3) := by decide +kernel
theorem dX11_sizePost_32 : decode cX11_sizePost 32 = .ok (.aload_n 0, 1) := by decide +kernel
theorem dX11_sizePost_33 : decode cX11_sizePost 33 = .ok (.getfield 28, 3) := by decide +kernel
theorem dX11_sizePost_36 : decode cX11_sizePost 36 = .ok (.getfield 44, 3) := by decide +kernel
theorem dX11_sizePost_39 : decode cX11_sizePost 39 = .ok (.getfield 298, 3) := by decide +kernel
theorem dX11_sizePost_42 : decode cX11_sizePost 42 = .ok (.iload_n 1, 1) := by decide +kernel
theorem dX11_sizePost_43 : decode cX11_sizePost 43 = .ok (.iaload, 1) := by decide +kernel
theorem dX11_sizePost_44 : decode cX11_sizePost 44 = .ok (.iaload, 1) := by decide +kernel
theorem dX11_sizePost_45 : decode cX11_sizePost 45 = .ok (.istore_n 3, 1) := by decide +kernel
theorem dX11_sizePost_46 : decode cX11_sizePost 46 = .ok (.aload_n 0, 1) := by decide +kernel
theorem dX11_sizePost_47 : decode cX11_sizePost 47 = .ok (.getfield 59, 3) := by decide +kernel
theorem dX11_sizePost_50 : decode cX11_sizePost 50 = .ok (.aload_n 0, 1) := by decide +kernel
theorem dX11_sizePost_51 : decode cX11_sizePost 51 = .ok (.getfield 28, 3) := by decide +kernel
theorem dX11_sizePost_54 : decode cX11_sizePost 54 = .ok (.getfield 44, 3) := by decide +kernel
theorem dX11_sizePost_57 : decode cX11_sizePost 57 = .ok (.getfield 326, 3) := by decide +kernel
theorem dX11_sizePost_60 : decode cX11_sizePost 60 = .ok (.iload_n 1, 1) := by decide +kernel
theorem dX11_sizePost_61 : decode cX11_sizePost 61 = .ok (.iaload, 1) := by decide +kernel
theorem dX11_sizePost_62 : decode cX11_sizePost 62 = .ok (.iload_n 3, 1) := by decide +kernel
theorem dX11_sizePost_63 : decode cX11_sizePost 63 = .ok (.invokestatic 216, 3) := by decide +kernel
theorem dX11_sizePost_66 : decode cX11_sizePost 66 = .ok (.dup2, 1) := by decide +kernel
theorem dX11_sizePost_67 : decode cX11_sizePost 67 = .ok (.iaload, 1) := by decide +kernel
theorem dX11_sizePost_68 : decode cX11_sizePost 68 = .ok (.iload_n 2, 1) := by decide +kernel
theorem dX11_sizePost_69 : decode cX11_sizePost 69 = .ok (.iadd, 1) := by decide +kernel
theorem dX11_sizePost_70 : decode cX11_sizePost 70 = .ok (.iastore, 1) := by decide +kernel
theorem dX11_sizePost_71 : decode cX11_sizePost 71 = .ok (.iload_n 2, 1) := by decide +kernel
theorem dX11_sizePost_72 : decode cX11_sizePost 72 = .ok (.ireturn, 1) := by decide +kernel
theorem dX11_planRefusal_0 : decode cX11_planRefusal 0 = .ok (.aload_n 0, 1) := by decide +kernel
theorem dX11_planRefusal_1 : decode cX11_planRefusal 1 = .ok (.getfield 38, 3) := by decide +kernel
theorem dX11_planRefusal_4 : decode cX11_planRefusal 4 = .ok (.invokevirtual 355, 3) := by decide +kernel
theorem dX11_planRefusal_7 : decode cX11_planRefusal 7 = .ok (.bipush 8, 2) := by decide +kernel
theorem dX11_planRefusal_9 : decode cX11_planRefusal 9 = .ok (.if_icmp .le 6, 3) := by decide +kernel
theorem dX11_planRefusal_12 : decode cX11_planRefusal 12 = .ok (.bipush (-3), 2) := by decide +kernel
theorem dX11_planRefusal_14 : decode cX11_planRefusal 14 = .ok (.ireturn, 1) := by decide +kernel
theorem dX11_planRefusal_15 : decode cX11_planRefusal 15 = .ok (.iload_n 1, 1) := by decide +kernel
theorem dX11_planRefusal_16 : decode cX11_planRefusal 16 = .ok (.iconst 1, 1) := by decide +kernel
theorem dX11_planRefusal_17 : decode cX11_planRefusal 17 = .ok (.if_icmp .ge 6, 3) := by decide +kernel
theorem dX11_planRefusal_20 : decode cX11_planRefusal 20 = .ok (.bipush (-4), 2) := by decide +kernel
theorem dX11_planRefusal_22 : decode cX11_planRefusal 22 = .ok (.ireturn, 1) := by decide +kernel
theorem dX11_planRefusal_23 : decode cX11_planRefusal 23 = .ok (.iload_n 1, 1) := by decide +kernel
theorem dX11_planRefusal_24 : decode cX11_planRefusal 24 = .ok (.sipush 9600, 3) := by decide +kernel
theorem dX11_planRefusal_27 : decode cX11_planRefusal 27 = .ok (.if_icmp .le 8, 3) := by decide +kernel
theorem dX11_planRefusal_30 : decode cX11_planRefusal 30 = .ok (.bipush (-6), 2) := by decide +kernel
theorem dX11_planRefusal_32 : decode cX11_planRefusal 32 = .ok (.goto 4, 3) := by decide +kernel
theorem dX11_planRefusal_35 : decode cX11_planRefusal 35 = .ok (.iconst 0, 1) := by decide +kernel
theorem dX11_planRefusal_36 : decode cX11_planRefusal 36 = .ok (.ireturn, 1) := by decide +kernel
theorem dX11_readOld_0 : decode cX11_readOld 0 = .ok (.iload_n 2, 1) := by decide +kernel
theorem dX11_readOld_1 : decode cX11_readOld 1 = .ok (.iconst (-1), 1) := by decide +kernel
theorem dX11_readOld_2 : decode cX11_readOld 2 = .ok (.if_icmp .lt 14, 3) := by decide +kernel
theorem dX11_readOld_5 : decode cX11_readOld 5 = .ok (.iload_n 3, 1) := by decide +kernel
theorem dX11_readOld_6 : decode cX11_readOld 6 = .ok (.iconst (-1), 1) := by decide +kernel
theorem dX11_readOld_7 : decode cX11_readOld 7 = .ok (.if_icmp .lt 9, 3) := by decide +kernel
theorem dX11_readOld_10 : decode cX11_readOld 10 = .ok (.iload 4, 2) := by decide +kernel
theorem dX11_readOld_12 : decode cX11_readOld 12 = .ok (.iconst (-1), 1) := by decide +kernel
theorem dX11_readOld_13 : decode cX11_readOld 13 = .ok (.if_icmp .ge 10, 3) := by decide +kernel
theorem dX11_readOld_16 : decode cX11_readOld 16 = .ok (.aload_n 0, 1) := by decide +kernel
theorem dX11_readOld_17 : decode cX11_readOld 17 = .ok (.bipush (-4), 2) := by decide +kernel
theorem dX11_readOld_19 : decode cX11_readOld 19 = .ok (.invokevirtual 69, 3) := by decide +kernel
theorem dX11_readOld_22 : decode cX11_readOld 22 = .ok (.ireturn, 1) := by decide +kernel
theorem dX11_readOld_23 : decode cX11_readOld 23 = .ok (.iload_n 2, 1) := by decide +kernel
theorem dX11_readOld_24 : decode cX11_readOld 24 = .ok (.bipush 99, 2) := by decide +kernel
theorem dX11_readOld_26 : decode cX11_readOld 26 = .ok (.if_icmp .gt 16, 3) := by decide +kernel
theorem dX11_readOld_29 : decode cX11_readOld 29 = .ok (.iload_n 3, 1) := by decide +kernel
theorem dX11_readOld_30 : decode cX11_readOld 30 = .ok (.bipush 99, 2) := by decide +kernel
theorem dX11_readOld_32 : decode cX11_readOld 32 = .ok (.if_icmp .gt 10, 3) := by decide +kernel
theorem dX11_readOld_35 : decode cX11_readOld 35 = .ok (.iload 4, 2) := by decide +kernel
theorem dX11_readOld_37 : decode cX11_readOld 37 = .ok (.bipush 99, 2) := by decide +kernel
theorem dX11_readOld_39 : decode cX11_readOld 39 = .ok (.if_icmp .le 10, 3) := by decide +kernel
theorem dX11_readOld_42 : decode cX11_readOld 42 = .ok (.aload_n 0, 1) := by decide +kernel
theorem dX11_readOld_43 : decode cX11_readOld 43 = .ok (.bipush (-6), 2) := by decide +kernel
theorem dX11_readOld_45 : decode cX11_readOld 45 = .ok (.invokevirtual 69, 3) := by decide +kernel
theorem dX11_readOld_48 : decode cX11_readOld 48 = .ok (.ireturn, 1) := by decide +kernel
theorem dX11_readOld_49 : decode cX11_readOld 49 = .ok (.aload_n 0, 1) := by decide +kernel
theorem dX11_readOld_50 : decode cX11_readOld 50 = .ok (.getfield 51, 3) := by decide +kernel
theorem dX11_readOld_53 : decode cX11_readOld 53 = .ok (.getfield 358, 3) := by decide +kernel
theorem dX11_readOld_56 : decode cX11_readOld 56 = .ok (.iload_n 1, 1) := by decide +kernel
theorem dX11_readOld_57 : decode cX11_readOld 57 = .ok (.iload_n 2, 1) := by decide +kernel
theorem dX11_readOld_58 : decode cX11_readOld 58 = .ok (.iastore, 1) := by decide +kernel
theorem dX11_readOld_59 : decode cX11_readOld 59 = .ok (.aload_n 0, 1) := by decide +kernel
theorem dX11_readOld_60 : decode cX11_readOld 60 = .ok (.getfield 51, 3) := by decide +kernel
theorem dX11_readOld_63 : decode cX11_readOld 63 = .ok (.getfield 358, 3) := by decide +kernel
theorem dX11_readOld_66 : decode cX11_readOld 66 = .ok (.iload_n 1, 1) := by decide +kernel
theorem dX11_readOld_67 : decode cX11_readOld 67 = .ok (.iconst 1, 1) := by decide +kernel
theorem dX11_readOld_68 : decode cX11_readOld 68 = .ok (.iadd, 1) := by decide +kernel
theorem dX11_readOld_69 : decode cX11_readOld 69 = .ok (.iload_n 3, 1) := by decide +kernel
theorem dX11_readOld_70 : decode cX11_readOld 70 = .ok (.iastore, 1) := by decide +kernel
theorem dX11_readOld_71 : decode cX11_readOld 71 = .ok (.aload_n 0, 1) := by decide +kernel
theorem dX11_readOld_72 : decode cX11_readOld 72 = .ok (.getfield 51, 3) := by decide +kernel
theorem dX11_readOld_75 : decode cX11_readOld 75 = .ok (.getfield 358, 3) := by decide +kernel
theorem dX11_readOld_78 : decode cX11_readOld 78 = .ok (.iload_n 1, 1) := by decide +kernel
theorem dX11_readOld_79 : decode cX11_readOld 79 = .ok (.iconst 2, 1) := by decide +kernel
theorem dX11_readOld_80 : decode cX11_readOld 80 = .ok (.iadd, 1) := by decide +kernel
theorem dX11_readOld_81 : decode cX11_readOld 81 = .ok (.iload 4, 2) := by decide +kernel
theorem dX11_readOld_83 : decode cX11_readOld 83 = .ok (.iastore, 1) := by decide +kernel
theorem dX11_readOld_84 : decode cX11_readOld 84 = .ok (.iconst 1, 1) := by decide +kernel
theorem dX11_readOld_85 : decode cX11_readOld 85 = .ok (.ireturn, 1) := by decide +kernel
theorem dX11_isMould_0 : decode cX11_isMould 0 = .ok (.iload_n 1, 1) := by decide +kernel
theorem dX11_isMould_1 : decode cX11_isMould 1 = .ok (.iconst 2, 1) := by decide +kernel
theorem dX11_isMould_2 : decode cX11_isMould 2 = .ok (.aload_n 0, 1) := by decide +kernel
theorem dX11_isMould_3 : decode cX11_isMould 3 = .ok (.getfield 28, 3) := by decide +kernel
theorem dX11_isMould_6 : decode cX11_isMould 6 = .ok (.getfield 142, 3) := by decide +kernel
theorem dX11_isMould_9 : decode cX11_isMould 9 = .ok (.getfield 146, 3) := by decide +kernel
theorem dX11_isMould_12 : decode cX11_isMould 12 = .ok (.imul, 1) := by decide +kernel
theorem dX11_isMould_13 : decode cX11_isMould 13 = .ok (.invokestatic 65, 3) := by decide +kernel
theorem dX11_isMould_16 : decode cX11_isMould 16 = .ok (.ireturn, 1) := by decide +kernel
theorem dX11_isNumber_0 : decode cX11_isNumber 0 = .ok (.iload_n 0, 1) := by decide +kernel
theorem dX11_isNumber_1 : decode cX11_isNumber 1 = .ok (.ifCond .lt 12, 3) := by decide +kernel
theorem dX11_isNumber_4 : decode cX11_isNumber 4 = .ok (.iload_n 0, 1) := by decide +kernel
theorem dX11_isNumber_5 : decode cX11_isNumber 5 = .ok (.iload_n 1, 1) := by decide +kernel
theorem dX11_isNumber_6 : decode cX11_isNumber 6 = .ok (.if_icmp .ge 7, 3) := by decide +kernel
theorem dX11_isNumber_9 : decode cX11_isNumber 9 = .ok (.iconst 1, 1) := by decide +kernel
theorem dX11_isNumber_10 : decode cX11_isNumber 10 = .ok (.goto 4, 3) := by decide +kernel
theorem dX11_isNumber_13 : decode cX11_isNumber 13 = .ok (.iconst 0, 1) := by decide +kernel
theorem dX11_isNumber_14 : decode cX11_isNumber 14 = .ok (.ireturn, 1) := by decide +kernel
theorem dX11_isWeight_0 : decode cX11_isWeight 0 = .ok (.iload_n 0, 1) := by decide +kernel
theorem dX11_isWeight_1 : decode cX11_isWeight 1 = .ok (.iconst 1, 1) := by decide +kernel
theorem dX11_isWeight_2 : decode cX11_isWeight 2 = .ok (.if_icmp .lt 13, 3) := by decide +kernel
theorem dX11_isWeight_5 : decode cX11_isWeight 5 = .ok (.iload_n 0, 1) := by decide +kernel
theorem dX11_isWeight_6 : decode cX11_isWeight 6 = .ok (.bipush 8, 2) := by decide +kernel
theorem dX11_isWeight_8 : decode cX11_isWeight 8 = .ok (.if_icmp .gt 7, 3) := by decide +kernel
theorem dX11_isWeight_11 : decode cX11_isWeight 11 = .ok (.iconst 1, 1) := by decide +kernel
theorem dX11_isWeight_12 : decode cX11_isWeight 12 = .ok (.goto 4, 3) := by decide +kernel
theorem dX11_isWeight_15 : decode cX11_isWeight 15 = .ok (.iconst 0, 1) := by decide +kernel
theorem dX11_isWeight_16 : decode cX11_isWeight 16 = .ok (.ireturn, 1) := by decide +kernel
theorem dX11_shelfOf_0 : decode cX11_shelfOf 0 = .ok (.iload_n 0, 1) := by decide +kernel
theorem dX11_shelfOf_1 : decode cX11_shelfOf 1 = .ok (.bipush 9, 2) := by decide +kernel
theorem dX11_shelfOf_3 : decode cX11_shelfOf 3 = .ok (.imul, 1) := by decide +kernel
theorem dX11_shelfOf_4 : decode cX11_shelfOf 4 = .ok (.iload_n 1, 1) := by decide +kernel
theorem dX11_shelfOf_5 : decode cX11_shelfOf 5 = .ok (.iadd, 1) := by decide +kernel
theorem dX11_shelfOf_6 : decode cX11_shelfOf 6 = .ok (.ireturn, 1) := by decide +kernel
theorem dX11_copyRow_0 : decode cX11_copyRow 0 = .ok (.aload_n 0, 1) := by decide +kernel
theorem dX11_copyRow_1 : decode cX11_copyRow 1 = .ok (.iconst 0, 1) := by decide +kernel
theorem dX11_copyRow_2 : decode cX11_copyRow 2 = .ok (.aload_n 1, 1) := by decide +kernel
theorem dX11_copyRow_3 : decode cX11_copyRow 3 = .ok (.iconst 0, 1) := by decide +kernel
theorem dX11_copyRow_4 : decode cX11_copyRow 4 = .ok (.aload_n 0, 1) := by decide +kernel
theorem dX11_copyRow_5 : decode cX11_copyRow 5 = .ok (.arraylength, 1) := by decide +kernel
theorem dX11_copyRow_6 : decode cX11_copyRow 6 = .ok (.aload_n 1, 1) := by decide +kernel
theorem dX11_copyRow_7 : decode cX11_copyRow 7 = .ok (.arraylength, 1) := by decide +kernel
theorem dX11_copyRow_8 : decode cX11_copyRow 8 = .ok (.invokestatic 268, 3) := by decide +kernel
theorem dX11_copyRow_11 : decode cX11_copyRow 11 = .ok (.invokestatic 360, 3) := by decide +kernel
theorem dX11_copyRow_14 : decode cX11_copyRow 14 = .ok (.return_, 1) := by decide +kernel
theorem dX12_init_0 : decode cX12_init 0 = .ok (.aload_n 0, 1) := by decide +kernel
theorem dX12_init_1 : decode cX12_init 1 = .ok (.invokespecial 1, 3) := by decide +kernel
theorem dX12_init_4 : decode cX12_init 4 = .ok (.aload_n 0, 1) := by decide +kernel
theorem dX12_init_5 : decode cX12_init 5 = .ok (.bipush 7, 2) := by decide +kernel
theorem dX12_init_7 : decode cX12_init 7 = .ok (.newarray .int, 2) := by decide +kernel
theorem dX12_init_9 : decode cX12_init 9 = .ok (.putfield 7, 3) := by decide +kernel
theorem dX12_init_12 : decode cX12_init 12 = .ok (.aload_n 0, 1) := by decide +kernel
theorem dX12_init_13 : decode cX12_init 13 = .ok (.sipush 303, 3) := by decide +kernel
theorem dX12_init_16 : decode cX12_init 16 = .ok (.newarray .int, 2) := by decide +kernel
theorem dX12_init_18 : decode cX12_init 18 = .ok (.putfield 13, 3) := by decide +kernel
theorem dX12_init_21 : decode cX12_init 21 = .ok (.aload_n 0, 1) := by decide +kernel
theorem dX12_init_22 : decode cX12_init 22 = .ok (.bipush 9, 2) := by decide +kernel
theorem dX12_init_24 : decode cX12_init 24 = .ok (.newarray .int, 2) := by decide +kernel
theorem dX12_init_26 : decode cX12_init 26 = .ok (.putfield 16, 3) := by decide +kernel
theorem dX12_init_29 : decode cX12_init 29 = .ok (.aload_n 0, 1) := by decide +kernel
theorem dX12_init_30 : decode cX12_init 30 = .ok (.bipush 9, 2) := by decide +kernel
theorem dX12_init_32 : decode cX12_init 32 = .ok (.newarray .int, 2) := by decide +kernel
theorem dX12_init_34 : decode cX12_init 34 = .ok (.putfield 19, 3) := by decide +kernel
theorem dX12_init_37 : decode cX12_init 37 = .ok (.aload_n 0, 1) := by decide +kernel
theorem dX12_init_38 : decode cX12_init 38 = .ok (.bipush 9, 2) := by decide +kernel
theorem dX12_init_40 : decode cX12_init 40 = .ok (.newarray .int, 2) := by decide +kernel
theorem dX12_init_42 : decode cX12_init 42 = .ok (.putfield 22, 3) := by decide +kernel
theorem dX12_init_45 : decode cX12_init 45 = .ok (.aload_n 0, 1) := by decide +kernel
theorem dX12_init_46 : decode cX12_init 46 = .ok (.bipush 9, 2) := by decide +kernel
theorem dX12_init_48 : decode cX12_init 48 = .ok (.newarray .int, 2) := by decide +kernel
theorem dX12_init_50 : decode cX12_init 50 = .ok (.putfield 25, 3) := by decide +kernel
theorem dX12_init_53 : decode cX12_init 53 = .ok (.aload_n 0, 1) := by decide +kernel
theorem dX12_init_54 : decode cX12_init 54 = .ok (.bipush 9, 2) := by decide +kernel
theorem dX12_init_56 : decode cX12_init 56 = .ok (.newarray .int, 2) := by decide +kernel
theorem dX12_init_58 : decode cX12_init 58 = .ok (.putfield 28, 3) := by decide +kernel
theorem dX12_init_61 : decode cX12_init 61 = .ok (.aload_n 0, 1) := by decide +kernel
theorem dX12_init_62 : decode cX12_init 62 = .ok (.bipush 81, 2) := by decide +kernel
theorem dX12_init_64 : decode cX12_init 64 = .ok (.newarray .int, 2) := by decide +kernel
theorem dX12_init_66 : decode cX12_init 66 = .ok (.putfield 31, 3) := by decide +kernel
theorem dX12_init_69 : decode cX12_init 69 = .ok (.aload_n 0, 1) := by decide +kernel
theorem dX12_init_70 : decode cX12_init 70 = .ok (.bipush 40, 2) := by decide +kernel
theorem dX12_init_72 : decode cX12_init 72 = .ok (.newarray .int, 2) := by decide +kernel
theorem dX12_init_74 : decode cX12_init 74 = .ok (.putfield 34, 3) := by decide +kernel
theorem dX12_init_77 : decode cX12_init 77 = .ok (.aload_n 0, 1) := by decide +kernel
theorem dX12_init_78 : decode cX12_init 78 = .ok (.bipush 40, 2) := by decide +kernel
theorem dX12_init_80 : decode cX12_init 80 = .ok (.newarray .int, 2) := by decide +kernel
theorem dX12_init_82 : decode cX12_init 82 = .ok (.putfield 37, 3) := by decide +kernel
theorem dX12_init_85 : decode cX12_init 85 = .ok (.aload_n 0, 1) := by decide +kernel
theorem dX12_init_86 : decode cX12_init 86 = .ok (.iconst 4, 1) := by decide +kernel
theorem dX12_init_87 : decode cX12_init 87 = .ok (.newarray .int, 2) := by decide +kernel
theorem dX12_init_89 : decode cX12_init 89 = .ok (.putfield 40, 3) := by decide +kernel
theorem dX12_init_92 : decode cX12_init 92 = .ok (.aload_n 0, 1) := by decide +kernel
theorem dX12_init_93 : decode cX12_init 93 = .ok (.bipush 48, 2) := by decide +kernel
theorem dX12_init_95 : decode cX12_init 95 = .ok (.newarray .int, 2) := by decide +kernel
theorem dX12_init_97 : decode cX12_init 97 = .ok (.putfield 43, 3) := by decide +kernel
theorem dX12_init_100 : decode cX12_init 100 = .ok (.aload_n 0, 1) := by decide +kernel
theorem dX12_init_101 : decode cX12_init 101 = .ok (.bipush 8, 2) := by decide +kernel
theorem dX12_init_103 : decode cX12_init 103 = .ok (.newarray .int, 2) := by decide +kernel
theorem dX12_init_105 : decode cX12_init 105 = .ok (.putfield 46, 3) := by decide +kernel
theorem dX12_init_108 : decode cX12_init 108 = .ok (.aload_n 0, 1) := by decide +kernel
theorem dX12_init_109 : decode cX12_init 109 = .ok (.iconst 3, 1) := by decide +kernel
theorem dX12_init_110 : decode cX12_init 110 = .ok (.newarray .int, 2) := by decide +kernel
theorem dX12_init_112 : decode cX12_init 112 = .ok (.dup, 1) := by decide +kernel
theorem dX12_init_113 : decode cX12_init 113 = .ok (.iconst 0, 1) := by decide +kernel
theorem dX12_init_114 : decode cX12_init 114 = .ok (.iconst (-1), 1) := by decide +kernel
theorem dX12_init_115 : decode cX12_init 115 = .ok (.iastore, 1) := by decide +kernel
theorem dX12_init_116 : decode cX12_init 116 = .ok (.dup, 1) := by decide +kernel
theorem dX12_init_117 : decode cX12_init 117 = .ok (.iconst 1, 1) := by decide +kernel
theorem dX12_init_118 : decode cX12_init 118 = .ok (.iconst (-1), 1) := by decide +kernel
theorem dX12_init_119 : decode cX12_init 119 = .ok (.iastore, 1) := by decide +kernel
theorem dX12_init_120 : decode cX12_init 120 = .ok (.dup, 1) := by decide +kernel
theorem dX12_init_121 : decode cX12_init 121 = .ok (.iconst 2, 1) := by decide +kernel
theorem dX12_init_122 : decode cX12_init 122 = .ok (.iconst (-1), 1) := by decide +kernel
theorem dX12_init_123 : decode cX12_init 123 = .ok (.iastore, 1) := by decide +kernel
theorem dX12_init_124 : decode cX12_init 124 = .ok (.putfield 49, 3) := by decide +kernel
theorem dX12_init_127 : decode cX12_init 127 = .ok (.aload_n 0, 1) := by decide +kernel
theorem dX12_init_128 : decode cX12_init 128 = .ok (.iconst 3, 1) := by decide +kernel
theorem dX12_init_129 : decode cX12_init 129 = .ok (.newarray .int, 2) := by decide +kernel
theorem dX12_init_131 : decode cX12_init 131 = .ok (.putfield 52, 3) := by decide +kernel
theorem dX12_init_134 : decode cX12_init 134 = .ok (.aload_n 0, 1) := by decide +kernel
theorem dX12_init_135 : decode cX12_init 135 = .ok (.bipush 10, 2) := by decide +kernel
theorem dX12_init_137 : decode cX12_init 137 = .ok (.putfield 55, 3) := by decide +kernel
theorem dX12_init_140 : decode cX12_init 140 = .ok (.aload_n 0, 1) := by decide +kernel
theorem dX12_init_141 : decode cX12_init 141 = .ok (.bipush 12, 2) := by decide +kernel
theorem dX12_init_143 : decode cX12_init 143 = .ok (.newarray .int, 2) := by decide +kernel
theorem dX12_init_145 : decode cX12_init 145 = .ok (.putfield 59, 3) := by decide +kernel
theorem dX12_init_148 : decode cX12_init 148 = .ok (.aload_n 0, 1) := by decide +kernel
theorem dX12_init_149 : decode cX12_init 149 = .ok (.bipush 12, 2) := by decide +kernel
theorem dX12_init_151 : decode cX12_init 151 = .ok (.newarray .int, 2) := by decide +kernel
theorem dX12_init_153 : decode cX12_init 153 = .ok (.putfield 62, 3) := by decide +kernel
theorem dX12_init_156 : decode cX12_init 156 = .ok (.aload_n 0, 1) := by decide +kernel
theorem dX12_init_157 : decode cX12_init 157 = .ok (.bipush 12, 2) := by decide +kernel
theorem dX12_init_159 : decode cX12_init 159 = .ok (.newarray .int, 2) := by decide +kernel
theorem dX12_init_161 : decode cX12_init 161 = .ok (.putfield 65, 3) := by decide +kernel
theorem dX12_init_164 : decode cX12_init 164 = .ok (.aload_n 0, 1) := by decide +kernel
theorem dX12_init_165 : decode cX12_init 165 = .ok (.bipush 12, 2) := by decide +kernel
theorem dX12_init_167 : decode cX12_init 167 = .ok (.newarray .int, 2) := by decide +kernel
theorem dX12_init_169 : decode cX12_init 169 = .ok (.putfield 68, 3) := by decide +kernel
theorem dX12_init_172 : decode cX12_init 172 = .ok (.aload_n 0, 1) := by decide +kernel
end
section
theorem dX12_init_173 : decode cX12_init 173 = .ok (.bipush 12, 2) := by decide +kernel
theorem dX12_init_175 : decode cX12_init 175 = .ok (.newarray .int, 2) := by decide +kernel
theorem dX12_init_177 : decode cX12_init 177 = .ok (.putfield 71, 3) := by decide +kernel
theorem dX12_init_180 : decode cX12_init 180 = .ok (.aload_n 0, 1) := by decide +kernel
theorem dX12_init_181 : decode cX12_init 181 = .ok (.bipush 12, 2) := by decide +kernel
theorem dX12_init_183 : decode cX12_init 183 = .ok (.newarray .int, 2) := by decide +kernel
theorem dX12_init_185 : decode cX12_init 185 = .ok (.putfield 74, 3) := by decide +kernel
theorem dX12_init_188 : decode cX12_init 188 = .ok (.aload_n 0, 1) := by decide +kernel
theorem dX12_init_189 : decode cX12_init 189 = .ok (.sipush 28800, 3) := by decide +kernel
theorem dX12_init_192 : decode cX12_init 192 = .ok (.newarray .int, 2) := by decide +kernel
theorem dX12_init_194 : decode cX12_init 194 = .ok (.putfield 77, 3) := by decide +kernel
theorem dX12_init_197 : decode cX12_init 197 = .ok (.aload_n 0, 1) := by decide +kernel
theorem dX12_init_198 : decode cX12_init 198 = .ok (.sipush 1080, 3) := by decide +kernel
theorem dX12_init_201 : decode cX12_init 201 = .ok (.newarray .int, 2) := by decide +kernel
theorem dX12_init_203 : decode cX12_init 203 = .ok (.putfield 80, 3) := by decide +kernel
theorem dX12_init_206 : decode cX12_init 206 = .ok (.aload_n 0, 1) := by decide +kernel
theorem dX12_init_207 : decode cX12_init 207 = .ok (.bipush 6, 2) := by decide +kernel
theorem dX12_init_209 : decode cX12_init 209 = .ok (.newarray .int, 2) := by decide +kernel
theorem dX12_init_211 : decode cX12_init 211 = .ok (.dup, 1) := by decide +kernel
theorem dX12_init_212 : decode cX12_init 212 = .ok (.iconst 0, 1) := by decide +kernel
theorem dX12_init_213 : decode cX12_init 213 = .ok (.iconst (-1), 1) := by decide +kernel
theorem dX12_init_214 : decode cX12_init 214 = .ok (.iastore, 1) := by decide +kernel
theorem dX12_init_215 : decode cX12_init 215 = .ok (.dup, 1) := by decide +kernel
theorem dX12_init_216 : decode cX12_init 216 = .ok (.iconst 1, 1) := by decide +kernel
theorem dX12_init_217 : decode cX12_init 217 = .ok (.iconst (-1), 1) := by decide +kernel
theorem dX12_init_218 : decode cX12_init 218 = .ok (.iastore, 1) := by decide +kernel
theorem dX12_init_219 : decode cX12_init 219 = .ok (.dup, 1) := by decide +kernel
theorem dX12_init_220 : decode cX12_init 220 = .ok (.iconst 2, 1) := by decide +kernel
theorem dX12_init_221 : decode cX12_init 221 = .ok (.iconst (-1), 1) := by decide +kernel
theorem dX12_init_222 : decode cX12_init 222 = .ok (.iastore, 1) := by decide +kernel
theorem dX12_init_223 : decode cX12_init 223 = .ok (.dup, 1) := by decide +kernel
theorem dX12_init_224 : decode cX12_init 224 = .ok (.iconst 3, 1) := by decide +kernel
theorem dX12_init_225 : decode cX12_init 225 = .ok (.iconst (-1), 1) := by decide +kernel
theorem dX12_init_226 : decode cX12_init 226 = .ok (.iastore, 1) := by decide +kernel
theorem dX12_init_227 : decode cX12_init 227 = .ok (.dup, 1) := by decide +kernel
theorem dX12_init_228 : decode cX12_init 228 = .ok (.iconst 4, 1) := by decide +kernel
theorem dX12_init_229 : decode cX12_init 229 = .ok (.iconst (-1), 1) := by decide +kernel
theorem dX12_init_230 : decode cX12_init 230 = .ok (.iastore, 1) := by decide +kernel
theorem dX12_init_231 : decode cX12_init 231 = .ok (.dup, 1) := by decide +kernel
theorem dX12_init_232 : decode cX12_init 232 = .ok (.iconst 5, 1) := by decide +kernel
theorem dX12_init_233 : decode cX12_init 233 = .ok (.iconst (-1), 1) := by decide +kernel
theorem dX12_init_234 : decode cX12_init 234 = .ok (.iastore, 1) := by decide +kernel
theorem dX12_init_235 : decode cX12_init 235 = .ok (.putfield 83, 3) := by decide +kernel
theorem dX12_init_238 : decode cX12_init 238 = .ok (.aload_n 0, 1) := by decide +kernel
theorem dX12_init_239 : decode cX12_init 239 = .ok (.sipush 755, 3) := by decide +kernel
theorem dX12_init_242 : decode cX12_init 242 = .ok (.newarray .int, 2) := by decide +kernel
theorem dX12_init_244 : decode cX12_init 244 = .ok (.putfield 86, 3) := by decide +kernel
theorem dX12_init_247 : decode cX12_init 247 = .ok (.aload_n 0, 1) := by decide +kernel
theorem dX12_init_248 : decode cX12_init 248 = .ok (.sipush 755, 3) := by decide +kernel
theorem dX12_init_251 : decode cX12_init 251 = .ok (.newarray .int, 2) := by decide +kernel
theorem dX12_init_253 : decode cX12_init 253 = .ok (.putfield 89, 3) := by decide +kernel
theorem dX12_init_256 : decode cX12_init 256 = .ok (.aload_n 0, 1) := by decide +kernel
theorem dX12_init_257 : decode cX12_init 257 = .ok (.bipush 12, 2) := by decide +kernel
theorem dX12_init_259 : decode cX12_init 259 = .ok (.newarray .int, 2) := by decide +kernel
theorem dX12_init_261 : decode cX12_init 261 = .ok (.putfield 92, 3) := by decide +kernel
theorem dX12_init_264 : decode cX12_init 264 = .ok (.iconst 0, 1) := by decide +kernel
theorem dX12_init_265 : decode cX12_init 265 = .ok (.istore_n 1, 1) := by decide +kernel
theorem dX12_init_266 : decode cX12_init 266 = .ok (.iload_n 1, 1) := by decide +kernel
theorem dX12_init_267 : decode cX12_init 267 = .ok (.bipush 101, 2) := by decide +kernel
theorem dX12_init_269 : decode cX12_init 269 = .ok (.if_icmp .ge 26, 3) := by decide +kernel
theorem dX12_init_272 : decode cX12_init 272 = .ok (.aload_n 0, 1) := by decide +kernel
theorem dX12_init_273 : decode cX12_init 273 = .ok (.getfield 13, 3) := by decide +kernel
theorem dX12_init_276 : decode cX12_init 276 = .ok (.iload_n 1, 1) := by decide +kernel
theorem dX12_init_277 : decode cX12_init 277 = .ok (.iconst (-1), 1) := by decide +kernel
theorem dX12_init_278 : decode cX12_init 278 = .ok (.iastore, 1) := by decide +kernel
theorem dX12_init_279 : decode cX12_init 279 = .ok (.aload_n 0, 1) := by decide +kernel
theorem dX12_init_280 : decode cX12_init 280 = .ok (.getfield 13, 3) := by decide +kernel
theorem dX12_init_283 : decode cX12_init 283 = .ok (.bipush 101, 2) := by decide +kernel
theorem dX12_init_285 : decode cX12_init 285 = .ok (.iload_n 1, 1) := by decide +kernel
theorem dX12_init_286 : decode cX12_init 286 = .ok (.iadd, 1) := by decide +kernel
theorem dX12_init_287 : decode cX12_init 287 = .ok (.iconst (-1), 1) := by decide +kernel
theorem dX12_init_288 : decode cX12_init 288 = .ok (.iastore, 1) := by decide +kernel
theorem dX12_init_289 : decode cX12_init 289 = .ok (.iinc 1 1, 3) := by decide +kernel
theorem dX12_init_292 : decode cX12_init 292 = .ok (.goto (-26), 3) := by decide +kernel
theorem dX12_init_295 : decode cX12_init 295 = .ok (.iconst 0, 1) := by decide +kernel
theorem dX12_init_296 : decode cX12_init 296 = .ok (.istore_n 1, 1) := by decide +kernel
theorem dX12_init_297 : decode cX12_init 297 = .ok (.iload_n 1, 1) := by decide +kernel
theorem dX12_init_298 : decode cX12_init 298 = .ok (.bipush 9, 2) := by decide +kernel
theorem dX12_init_300 : decode cX12_init 300 = .ok (.if_icmp .ge 32, 3) := by decide +kernel
theorem dX12_init_303 : decode cX12_init 303 = .ok (.aload_n 0, 1) := by decide +kernel
theorem dX12_init_304 : decode cX12_init 304 = .ok (.getfield 16, 3) := by decide +kernel
theorem dX12_init_307 : decode cX12_init 307 = .ok (.iload_n 1, 1) := by decide +kernel
theorem dX12_init_308 : decode cX12_init 308 = .ok (.iconst 5, 1) := by decide +kernel
theorem dX12_init_309 : decode cX12_init 309 = .ok (.iastore, 1) := by decide +kernel
theorem dX12_init_310 : decode cX12_init 310 = .ok (.aload_n 0, 1) := by decide +kernel
theorem dX12_init_311 : decode cX12_init 311 = .ok (.getfield 19, 3) := by decide +kernel
theorem dX12_init_314 : decode cX12_init 314 = .ok (.iload_n 1, 1) := by decide +kernel
theorem dX12_init_315 : decode cX12_init 315 = .ok (.bipush 10, 2) := by decide +kernel
theorem dX12_init_317 : decode cX12_init 317 = .ok (.iastore, 1) := by decide +kernel
theorem dX12_init_318 : decode cX12_init 318 = .ok (.aload_n 0, 1) := by decide +kernel
theorem dX12_init_319 : decode cX12_init 319 = .ok (.getfield 22, 3) := by decide +kernel
theorem dX12_init_322 : decode cX12_init 322 = .ok (.iload_n 1, 1) := by decide +kernel
theorem dX12_init_323 : decode cX12_init 323 = .ok (.bipush 8, 2) := by decide +kernel
theorem dX12_init_325 : decode cX12_init 325 = .ok (.iastore, 1) := by decide +kernel
theorem dX12_init_326 : decode cX12_init 326 = .ok (.iinc 1 1, 3) := by decide +kernel
theorem dX12_init_329 : decode cX12_init 329 = .ok (.goto (-32), 3) := by decide +kernel
theorem dX12_init_332 : decode cX12_init 332 = .ok (.return_, 1) := by decide +kernel
theorem dX12_refuse_0 : decode cX12_refuse 0 = .ok (.aload_n 0, 1) := by decide +kernel
theorem dX12_refuse_1 : decode cX12_refuse 1 = .ok (.getfield 7, 3) := by decide +kernel
theorem dX12_refuse_4 : decode cX12_refuse 4 = .ok (.iload_n 1, 1) := by decide +kernel
theorem dX12_refuse_5 : decode cX12_refuse 5 = .ok (.ineg, 1) := by decide +kernel
theorem dX12_refuse_6 : decode cX12_refuse 6 = .ok (.dup2, 1) := by decide +kernel
theorem dX12_refuse_7 : decode cX12_refuse 7 = .ok (.iaload, 1) := by decide +kernel
theorem dX12_refuse_8 : decode cX12_refuse 8 = .ok (.iconst 1, 1) := by decide +kernel
theorem dX12_refuse_9 : decode cX12_refuse 9 = .ok (.iadd, 1) := by decide +kernel
theorem dX12_refuse_10 : decode cX12_refuse 10 = .ok (.iastore, 1) := by decide +kernel
theorem dX12_refuse_11 : decode cX12_refuse 11 = .ok (.iload_n 1, 1) := by decide +kernel
theorem dX12_refuse_12 : decode cX12_refuse 12 = .ok (.ireturn, 1) := by decide +kernel
theorem dX12_isIn_0 : decode cX12_isIn 0 = .ok (.iload_n 0, 1) := by decide +kernel
theorem dX12_isIn_1 : decode cX12_isIn 1 = .ok (.ifCond .lt 12, 3) := by decide +kernel
theorem dX12_isIn_4 : decode cX12_isIn 4 = .ok (.iload_n 0, 1) := by decide +kernel
theorem dX12_isIn_5 : decode cX12_isIn 5 = .ok (.iload_n 1, 1) := by decide +kernel
theorem dX12_isIn_6 : decode cX12_isIn 6 = .ok (.if_icmp .ge 7, 3) := by decide +kernel
theorem dX12_isIn_9 : decode cX12_isIn 9 = .ok (.iconst 1, 1) := by decide +kernel
theorem dX12_isIn_10 : decode cX12_isIn 10 = .ok (.goto 4, 3) := by decide +kernel
theorem dX12_isIn_13 : decode cX12_isIn 13 = .ok (.iconst 0, 1) := by decide +kernel
theorem dX12_isIn_14 : decode cX12_isIn 14 = .ok (.ireturn, 1) := by decide +kernel
theorem dX12_wrong_0 : decode cX12_wrong 0 = .ok (.iload_n 0, 1) := by decide +kernel
theorem dX12_wrong_1 : decode cX12_wrong 1 = .ok (.iload_n 1, 1) := by decide +kernel
theorem dX12_wrong_2 : decode cX12_wrong 2 = .ok (.if_icmp .ge 8, 3) := by decide +kernel
theorem dX12_wrong_5 : decode cX12_wrong 5 = .ok (.bipush (-4), 2) := by decide +kernel
theorem dX12_wrong_7 : decode cX12_wrong 7 = .ok (.goto 14, 3) := by decide +kernel
theorem dX12_wrong_10 : decode cX12_wrong 10 = .ok (.iload_n 0, 1) := by decide +kernel
theorem dX12_wrong_11 : decode cX12_wrong 11 = .ok (.iload_n 2, 1) := by decide +kernel
theorem dX12_wrong_12 : decode cX12_wrong 12 = .ok (.if_icmp .le 8, 3) := by decide +kernel
theorem dX12_wrong_15 : decode cX12_wrong 15 = .ok (.bipush (-6), 2) := by decide +kernel
theorem dX12_wrong_17 : decode cX12_wrong 17 = .ok (.goto 4, 3) := by decide +kernel
theorem dX12_wrong_20 : decode cX12_wrong 20 = .ok (.iconst 0, 1) := by decide +kernel
theorem dX12_wrong_21 : decode cX12_wrong 21 = .ok (.ireturn, 1) := by decide +kernel
theorem dX12_reckoned_0 : decode cX12_reckoned 0 = .ok (.iload_n 2, 1) := by decide +kernel
theorem dX12_reckoned_1 : decode cX12_reckoned 1 = .ok (.iconst 2, 1) := by decide +kernel
theorem dX12_reckoned_2 : decode cX12_reckoned 2 = .ok (.if_icmp .ne 14, 3) := by decide +kernel
theorem dX12_reckoned_5 : decode cX12_reckoned 5 = .ok (.aload_n 0, 1) := by decide +kernel
theorem dX12_reckoned_6 : decode cX12_reckoned 6 = .ok (.getfield 13, 3) := by decide +kernel
theorem dX12_reckoned_9 : decode cX12_reckoned 9 = .ok (.sipush 202, 3) := by decide +kernel
theorem dX12_reckoned_12 : decode cX12_reckoned 12 = .ok (.iload_n 1, 1) := by decide +kernel
theorem dX12_reckoned_13 : decode cX12_reckoned 13 = .ok (.iadd, 1) := by decide +kernel
theorem dX12_reckoned_14 : decode cX12_reckoned 14 = .ok (.iaload, 1) := by decide +kernel
theorem dX12_reckoned_15 : decode cX12_reckoned 15 = .ok (.ireturn, 1) := by decide +kernel
theorem dX12_reckoned_16 : decode cX12_reckoned 16 = .ok (.aload_n 0, 1) := by decide +kernel
theorem dX12_reckoned_17 : decode cX12_reckoned 17 = .ok (.getfield 13, 3) := by decide +kernel
theorem dX12_reckoned_20 : decode cX12_reckoned 20 = .ok (.bipush 101, 2) := by decide +kernel
theorem dX12_reckoned_22 : decode cX12_reckoned 22 = .ok (.iload_n 2, 1) := by decide +kernel
theorem dX12_reckoned_23 : decode cX12_reckoned 23 = .ok (.imul, 1) := by decide +kernel
theorem dX12_reckoned_24 : decode cX12_reckoned 24 = .ok (.iload_n 1, 1) := by decide +kernel
theorem dX12_reckoned_25 : decode cX12_reckoned 25 = .ok (.iadd, 1) := by decide +kernel
theorem dX12_reckoned_26 : decode cX12_reckoned 26 = .ok (.iaload, 1) := by decide +kernel
theorem dX12_reckoned_27 : decode cX12_reckoned 27 = .ok (.ifCond .lt 15, 3) := by decide +kernel
theorem dX12_reckoned_30 : decode cX12_reckoned 30 = .ok (.aload_n 0, 1) := by decide +kernel
theorem dX12_reckoned_31 : decode cX12_reckoned 31 = .ok (.getfield 13, 3) := by decide +kernel
theorem dX12_reckoned_34 : decode cX12_reckoned 34 = .ok (.bipush 101, 2) := by decide +kernel
theorem dX12_reckoned_36 : decode cX12_reckoned 36 = .ok (.iload_n 2, 1) := by decide +kernel
theorem dX12_reckoned_37 : decode cX12_reckoned 37 = .ok (.imul, 1) := by decide +kernel
theorem dX12_reckoned_38 : decode cX12_reckoned 38 = .ok (.iload_n 1, 1) := by decide +kernel
theorem dX12_reckoned_39 : decode cX12_reckoned 39 = .ok (.iadd, 1) := by decide +kernel
theorem dX12_reckoned_40 : decode cX12_reckoned 40 = .ok (.iaload, 1) := by decide +kernel
theorem dX12_reckoned_41 : decode cX12_reckoned 41 = .ok (.ireturn, 1) := by decide +kernel
theorem dX12_reckoned_42 : decode cX12_reckoned 42 = .ok (.iconst (-1), 1) := by decide +kernel
theorem dX12_reckoned_43 : decode cX12_reckoned 43 = .ok (.istore_n 3, 1) := by decide +kernel
theorem dX12_reckoned_44 : decode cX12_reckoned 44 = .ok (.iconst (-1), 1) := by decide +kernel
theorem dX12_reckoned_45 : decode cX12_reckoned 45 = .ok (.istore 4, 2) := by decide +kernel
theorem dX12_reckoned_47 : decode cX12_reckoned 47 = .ok (.iconst 0, 1) := by decide +kernel
theorem dX12_reckoned_48 : decode cX12_reckoned 48 = .ok (.istore 5, 2) := by decide +kernel
theorem dX12_reckoned_50 : decode cX12_reckoned 50 = .ok (.iload 5, 2) := by decide +kernel
theorem dX12_reckoned_52 : decode cX12_reckoned 52 = .ok (.iload_n 1, 1) := by decide +kernel
theorem dX12_reckoned_53 : decode cX12_reckoned 53 = .ok (.if_icmp .ge 37, 3) := by decide +kernel
theorem dX12_reckoned_56 : decode cX12_reckoned 56 = .ok (.aload_n 0, 1) := by decide +kernel
theorem dX12_reckoned_57 : decode cX12_reckoned 57 = .ok (.getfield 13, 3) := by decide +kernel
theorem dX12_reckoned_60 : decode cX12_reckoned 60 = .ok (.bipush 101, 2) := by decide +kernel
theorem dX12_reckoned_62 : decode cX12_reckoned 62 = .ok (.iload_n 2, 1) := by decide +kernel
theorem dX12_reckoned_63 : decode cX12_reckoned 63 = .ok (.imul, 1) := by decide +kernel
theorem dX12_reckoned_64 : decode cX12_reckoned 64 = .ok (.iload 5, 2) := by decide +kernel
theorem dX12_reckoned_66 : decode cX12_reckoned 66 = .ok (.iadd, 1) := by decide +kernel
theorem dX12_reckoned_67 : decode cX12_reckoned 67 = .ok (.iaload, 1) := by decide +kernel
theorem dX12_reckoned_68 : decode cX12_reckoned 68 = .ok (.ifCond .lt 16, 3) := by decide +kernel
theorem dX12_reckoned_71 : decode cX12_reckoned 71 = .ok (.aload_n 0, 1) := by decide +kernel
theorem dX12_reckoned_72 : decode cX12_reckoned 72 = .ok (.getfield 13, 3) := by decide +kernel
theorem dX12_reckoned_75 : decode cX12_reckoned 75 = .ok (.bipush 101, 2) := by decide +kernel
theorem dX12_reckoned_77 : decode cX12_reckoned 77 = .ok (.iload_n 2, 1) := by decide +kernel
theorem dX12_reckoned_78 : decode cX12_reckoned 78 = .ok (.imul, 1) := by decide +kernel
theorem dX12_reckoned_79 : decode cX12_reckoned 79 = .ok (.iload 5, 2) := by decide +kernel
theorem dX12_reckoned_81 : decode cX12_reckoned 81 = .ok (.iadd, 1) := by decide +kernel
theorem dX12_reckoned_82 : decode cX12_reckoned 82 = .ok (.iaload, 1) := by decide +kernel
theorem dX12_reckoned_83 : decode cX12_reckoned 83 = .ok (.istore_n 3, 1) := by decide +kernel
theorem dX12_reckoned_84 : decode cX12_reckoned 84 = .ok (.iinc 5 1, 3) := by decide +kernel
theorem dX12_reckoned_87 : decode cX12_reckoned 87 = .ok (.goto (-37), 3) := by decide +kernel
theorem dX12_reckoned_90 : decode cX12_reckoned 90 = .ok (.bipush 100, 2) := by decide +kernel
theorem dX12_reckoned_92 : decode cX12_reckoned 92 = .ok (.istore 5, 2) := by decide +kernel
theorem dX12_reckoned_94 : decode cX12_reckoned 94 = .ok (.iload 5, 2) := by decide +kernel
theorem dX12_reckoned_96 : decode cX12_reckoned 96 = .ok (.iload_n 1, 1) := by decide +kernel
theorem dX12_reckoned_97 : decode cX12_reckoned 97 = .ok (.if_icmp .le 38, 3) := by decide +kernel
theorem dX12_reckoned_100 : decode cX12_reckoned 100 = .ok (.aload_n 0, 1) := by decide +kernel
theorem dX12_reckoned_101 : decode cX12_reckoned 101 = .ok (.getfield 13, 3) := by decide +kernel
theorem dX12_reckoned_104 : decode cX12_reckoned 104 = .ok (.bipush 101, 2) := by decide +kernel
theorem dX12_reckoned_106 : decode cX12_reckoned 106 = .ok (.iload_n 2, 1) := by decide +kernel
theorem dX12_reckoned_107 : decode cX12_reckoned 107 = .ok (.imul, 1) := by decide +kernel
theorem dX12_reckoned_108 : decode cX12_reckoned 108 = .ok (.iload 5, 2) := by decide +kernel
theorem dX12_reckoned_110 : decode cX12_reckoned 110 = .ok (.iadd, 1) := by decide +kernel
theorem dX12_reckoned_111 : decode cX12_reckoned 111 = .ok (.iaload, 1) := by decide +kernel
theorem dX12_reckoned_112 : decode cX12_reckoned 112 = .ok (.ifCond .lt 17, 3) := by decide +kernel
theorem dX12_reckoned_115 : decode cX12_reckoned 115 = .ok (.aload_n 0, 1) := by decide +kernel
theorem dX12_reckoned_116 : decode cX12_reckoned 116 = .ok (.getfield 13, 3) := by decide +kernel
theorem dX12_reckoned_119 : decode cX12_reckoned 119 = .ok (.bipush 101, 2) := by decide +kernel
theorem dX12_reckoned_121 : decode cX12_reckoned 121 = .ok (.iload_n 2, 1) := by decide +kernel
theorem dX12_reckoned_122 : decode cX12_reckoned 122 = .ok (.imul, 1) := by decide +kernel
theorem dX12_reckoned_123 : decode cX12_reckoned 123 = .ok (.iload 5, 2) := by decide +kernel
theorem dX12_reckoned_125 : decode cX12_reckoned 125 = .ok (.iadd, 1) := by decide +kernel
theorem dX12_reckoned_126 : decode cX12_reckoned 126 = .ok (.iaload, 1) := by decide +kernel
theorem dX12_reckoned_127 : decode cX12_reckoned 127 = .ok (.istore 4, 2) := by decide +kernel
theorem dX12_reckoned_129 : decode cX12_reckoned 129 = .ok (.iinc 5 (-1), 3) := by decide +kernel
theorem dX12_reckoned_132 : decode cX12_reckoned 132 = .ok (.goto (-38), 3) := by decide +kernel
theorem dX12_reckoned_135 : decode cX12_reckoned 135 = .ok (.iload_n 3, 1) := by decide +kernel
theorem dX12_reckoned_136 : decode cX12_reckoned 136 = .ok (.ifCond .ge 19, 3) := by decide +kernel
theorem dX12_reckoned_139 : decode cX12_reckoned 139 = .ok (.iload 4, 2) := by decide +kernel
theorem dX12_reckoned_141 : decode cX12_reckoned 141 = .ok (.ifCond .ge 14, 3) := by decide +kernel
theorem dX12_reckoned_144 : decode cX12_reckoned 144 = .ok (.iload_n 2, 1) := by decide +kernel
theorem dX12_reckoned_145 : decode cX12_reckoned 145 = .ok (.ifCond .ne 8, 3) := by decide +kernel
theorem dX12_reckoned_148 : decode cX12_reckoned 148 = .ok (.bipush 20, 2) := by decide +kernel
theorem dX12_reckoned_150 : decode cX12_reckoned 150 = .ok (.goto 4, 3) := by decide +kernel
theorem dX12_reckoned_153 : decode cX12_reckoned 153 = .ok (.iconst 4, 1) := by decide +kernel
theorem dX12_reckoned_154 : decode cX12_reckoned 154 = .ok (.ireturn, 1) := by decide +kernel
theorem dX12_reckoned_155 : decode cX12_reckoned 155 = .ok (.iload_n 3, 1) := by decide +kernel
theorem dX12_reckoned_156 : decode cX12_reckoned 156 = .ok (.ifCond .ge 8, 3) := by decide +kernel
theorem dX12_reckoned_159 : decode cX12_reckoned 159 = .ok (.iload 4, 2) := by decide +kernel
theorem dX12_reckoned_161 : decode cX12_reckoned 161 = .ok (.goto 18, 3) := by decide +kernel
theorem dX12_reckoned_164 : decode cX12_reckoned 164 = .ok (.iload 4, 2) := by decide +kernel
theorem dX12_reckoned_166 : decode cX12_reckoned 166 = .ok (.ifCond .ge 7, 3) := by decide +kernel
theorem dX12_reckoned_169 : decode cX12_reckoned 169 = .ok (.iload_n 3, 1) := by decide +kernel
theorem dX12_reckoned_170 : decode cX12_reckoned 170 = .ok (.goto 9, 3) := by decide +kernel
theorem dX12_reckoned_173 : decode cX12_reckoned 173 = .ok (.iload_n 3, 1) := by decide +kernel
theorem dX12_reckoned_174 : decode cX12_reckoned 174 = .ok (.iload 4, 2) := by decide +kernel
theorem dX12_reckoned_176 : decode cX12_reckoned 176 = .ok (.iadd, 1) := by decide +kernel
theorem dX12_reckoned_177 : decode cX12_reckoned 177 = .ok (.iconst 2, 1) := by decide +kernel
theorem dX12_reckoned_178 : decode cX12_reckoned 178 = .ok (.idiv, 1) := by decide +kernel
theorem dX12_reckoned_179 : decode cX12_reckoned 179 = .ok (.ireturn, 1) := by decide +kernel
theorem dX12_day_0 : decode cX12_day 0 = .ok (.iload_n 1, 1) := by decide +kernel
theorem dX12_day_1 : decode cX12_day 1 = .ok (.bipush 101, 2) := by decide +kernel
theorem dX12_day_3 : decode cX12_day 3 = .ok (.invokestatic 95, 3) := by decide +kernel
theorem dX12_day_6 : decode cX12_day 6 = .ok (.ifCond .ne 7, 3) := by decide +kernel
theorem dX12_day_9 : decode cX12_day 9 = .ok (.iconst (-1), 1) := by decide +kernel
theorem dX12_day_10 : decode cX12_day 10 = .ok (.goto 50, 3) := by decide +kernel
theorem dX12_day_13 : decode cX12_day 13 = .ok (.iload_n 2, 1) := by decide +kernel
theorem dX12_day_14 : decode cX12_day 14 = .ok (.iconst 3, 1) := by decide +kernel
theorem dX12_day_15 : decode cX12_day 15 = .ok (.invokestatic 95, 3) := by decide +kernel
theorem dX12_day_18 : decode cX12_day 18 = .ok (.ifCond .ne 8, 3) := by decide +kernel
theorem dX12_day_21 : decode cX12_day 21 = .ok (.bipush (-2), 2) := by decide +kernel
theorem dX12_day_23 : decode cX12_day 23 = .ok (.goto 37, 3) := by decide +kernel
theorem dX12_day_26 : decode cX12_day 26 = .ok (.iload_n 3, 1) := by decide +kernel
theorem dX12_day_27 : decode cX12_day 27 = .ok (.iload_n 2, 1) := by decide +kernel
theorem dX12_day_28 : decode cX12_day 28 = .ok (.iconst 2, 1) := by decide +kernel
theorem dX12_day_29 : decode cX12_day 29 = .ok (.if_icmp .ne 7, 3) := by decide +kernel
theorem dX12_day_32 : decode cX12_day 32 = .ok (.iconst 0, 1) := by decide +kernel
theorem dX12_day_33 : decode cX12_day 33 = .ok (.goto 4, 3) := by decide +kernel
theorem dX12_day_36 : decode cX12_day 36 = .ok (.iconst (-1), 1) := by decide +kernel
theorem dX12_day_37 : decode cX12_day 37 = .ok (.iload_n 2, 1) := by decide +kernel
theorem dX12_day_38 : decode cX12_day 38 = .ok (.ifCond .ne 8, 3) := by decide +kernel
theorem dX12_day_41 : decode cX12_day 41 = .ok (.bipush 60, 2) := by decide +kernel
theorem dX12_day_43 : decode cX12_day 43 = .ok (.goto 14, 3) := by decide +kernel
theorem dX12_day_46 : decode cX12_day 46 = .ok (.iload_n 2, 1) := by decide +kernel
theorem dX12_day_47 : decode cX12_day 47 = .ok (.iconst 1, 1) := by decide +kernel
theorem dX12_day_48 : decode cX12_day 48 = .ok (.if_icmp .ne 8, 3) := by decide +kernel
theorem dX12_day_51 : decode cX12_day 51 = .ok (.bipush 9, 2) := by decide +kernel
theorem dX12_day_53 : decode cX12_day 53 = .ok (.goto 4, 3) := by decide +kernel
theorem dX12_day_56 : decode cX12_day 56 = .ok (.iconst 1, 1) := by decide +kernel
theorem dX12_day_57 : decode cX12_day 57 = .ok (.invokestatic 99, 3) := by decide +kernel
theorem dX12_day_60 : decode cX12_day 60 = .ok (.istore 4, 2) := by decide +kernel
theorem dX12_day_62 : decode cX12_day 62 = .ok (.iload 4, 2) := by decide +kernel
theorem dX12_day_64 : decode cX12_day 64 = .ok (.ifCond .eq 10, 3) := by decide +kernel
theorem dX12_day_67 : decode cX12_day 67 = .ok (.aload_n 0, 1) := by decide +kernel
theorem dX12_day_68 : decode cX12_day 68 = .ok (.iload 4, 2) := by decide +kernel
theorem dX12_day_70 : decode cX12_day 70 = .ok (.invokevirtual 103, 3) := by decide +kernel
theorem dX12_day_73 : decode cX12_day 73 = .ok (.ireturn, 1) := by decide +kernel
theorem dX12_day_74 : decode cX12_day 74 = .ok (.aload_n 0, 1) := by decide +kernel
theorem dX12_day_75 : decode cX12_day 75 = .ok (.iload_n 1, 1) := by decide +kernel
theorem dX12_day_76 : decode cX12_day 76 = .ok (.iload_n 2, 1) := by decide +kernel
theorem dX12_day_77 : decode cX12_day 77 = .ok (.invokevirtual 107, 3) := by decide +kernel
theorem dX12_day_80 : decode cX12_day 80 = .ok (.istore 5, 2) := by decide +kernel
theorem dX12_day_82 : decode cX12_day 82 = .ok (.aload_n 0, 1) := by decide +kernel
theorem dX12_day_83 : decode cX12_day 83 = .ok (.getfield 13, 3) := by decide +kernel
theorem dX12_day_86 : decode cX12_day 86 = .ok (.bipush 101, 2) := by decide +kernel
theorem dX12_day_88 : decode cX12_day 88 = .ok (.iload_n 2, 1) := by decide +kernel
theorem dX12_day_89 : decode cX12_day 89 = .ok (.imul, 1) := by decide +kernel
theorem dX12_day_90 : decode cX12_day 90 = .ok (.iload_n 1, 1) := by decide +kernel
theorem dX12_day_91 : decode cX12_day 91 = .ok (.iadd, 1) := by decide +kernel
theorem dX12_day_92 : decode cX12_day 92 = .ok (.iload_n 3, 1) := by decide +kernel
theorem dX12_day_93 : decode cX12_day 93 = .ok (.iastore, 1) := by decide +kernel
theorem dX12_day_94 : decode cX12_day 94 = .ok (.iload 5, 2) := by decide +kernel
theorem dX12_day_96 : decode cX12_day 96 = .ok (.ireturn, 1) := by decide +kernel
theorem dX12_dayOf_0 : decode cX12_dayOf 0 = .ok (.iload_n 1, 1) := by decide +kernel
theorem dX12_dayOf_1 : decode cX12_dayOf 1 = .ok (.bipush 101, 2) := by decide +kernel
theorem dX12_dayOf_3 : decode cX12_dayOf 3 = .ok (.invokestatic 95, 3) := by decide +kernel
theorem dX12_dayOf_6 : decode cX12_dayOf 6 = .ok (.ifCond .ne 11, 3) := by decide +kernel
theorem dX12_dayOf_9 : decode cX12_dayOf 9 = .ok (.aload_n 0, 1) := by decide +kernel
theorem dX12_dayOf_10 : decode cX12_dayOf 10 = .ok (.iconst (-1), 1) := by decide +kernel
theorem dX12_dayOf_11 : decode cX12_dayOf 11 = .ok (.invokevirtual 103, 3) := by decide +kernel
theorem dX12_dayOf_14 : decode cX12_dayOf 14 = .ok (.goto 26, 3) := by decide +kernel
theorem dX12_dayOf_17 : decode cX12_dayOf 17 = .ok (.iload_n 2, 1) := by decide +kernel
theorem dX12_dayOf_18 : decode cX12_dayOf 18 = .ok (.iconst 3, 1) := by decide +kernel
theorem dX12_dayOf_19 : decode cX12_dayOf 19 = .ok (.invokestatic 95, 3) := by decide +kernel
theorem dX12_dayOf_22 : decode cX12_dayOf 22 = .ok (.ifCond .ne 12, 3) := by decide +kernel
theorem dX12_dayOf_25 : decode cX12_dayOf 25 = .ok (.aload_n 0, 1) := by decide +kernel
theorem dX12_dayOf_26 : decode cX12_dayOf 26 = .ok (.bipush (-2), 2) := by decide +kernel
theorem dX12_dayOf_28 : decode cX12_dayOf 28 = .ok (.invokevirtual 103, 3) := by decide +kernel
theorem dX12_dayOf_31 : decode cX12_dayOf 31 = .ok (.goto 9, 3) := by decide +kernel
theorem dX12_dayOf_34 : decode cX12_dayOf 34 = .ok (.aload_n 0, 1) := by decide +kernel
theorem dX12_dayOf_35 : decode cX12_dayOf 35 = .ok (.iload_n 1, 1) := by decide +kernel
theorem dX12_dayOf_36 : decode cX12_dayOf 36 = .ok (.iload_n 2, 1) := by decide +kernel
theorem dX12_dayOf_37 : decode cX12_dayOf 37 = .ok (.invokevirtual 107, 3) := by decide +kernel
theorem dX12_dayOf_40 : decode cX12_dayOf 40 = .ok (.ireturn, 1) := by decide +kernel
theorem dX12_isKind_0 : decode cX12_isKind 0 = .ok (.iload_n 1, 1) := by decide +kernel
theorem dX12_isKind_1 : decode cX12_isKind 1 = .ok (.bipush 9, 2) := by decide +kernel
theorem dX12_isKind_3 : decode cX12_isKind 3 = .ok (.invokestatic 95, 3) := by decide +kernel
theorem dX12_isKind_6 : decode cX12_isKind 6 = .ok (.ireturn, 1) := by decide +kernel
theorem dX12_kind_0 : decode cX12_kind 0 = .ok (.aload_n 0, 1) := by decide +kernel
theorem dX12_kind_1 : decode cX12_kind 1 = .ok (.iload_n 1, 1) := by decide +kernel
theorem dX12_kind_2 : decode cX12_kind 2 = .ok (.invokevirtual 111, 3) := by decide +kernel
theorem dX12_kind_5 : decode cX12_kind 5 = .ok (.ifCond .ne 9, 3) := by decide +kernel
theorem dX12_kind_8 : decode cX12_kind 8 = .ok (.aload_n 0, 1) := by decide +kernel
theorem dX12_kind_9 : decode cX12_kind 9 = .ok (.iconst (-1), 1) := by decide +kernel
theorem dX12_kind_10 : decode cX12_kind 10 = .ok (.invokevirtual 103, 3) := by decide +kernel
theorem dX12_kind_13 : decode cX12_kind 13 = .ok (.ireturn, 1) := by decide +kernel
theorem dX12_kind_14 : decode cX12_kind 14 = .ok (.iload_n 2, 1) := by decide +kernel
theorem dX12_kind_15 : decode cX12_kind 15 = .ok (.ifCond .lt 14, 3) := by decide +kernel
theorem dX12_kind_18 : decode cX12_kind 18 = .ok (.iload_n 3, 1) := by decide +kernel
theorem dX12_kind_19 : decode cX12_kind 19 = .ok (.iconst 1, 1) := by decide +kernel
theorem dX12_kind_20 : decode cX12_kind 20 = .ok (.if_icmp .lt 9, 3) := by decide +kernel
theorem dX12_kind_23 : decode cX12_kind 23 = .ok (.iload 4, 2) := by decide +kernel
theorem dX12_kind_25 : decode cX12_kind 25 = .ok (.iconst 1, 1) := by decide +kernel
theorem dX12_kind_26 : decode cX12_kind 26 = .ok (.if_icmp .ge 10, 3) := by decide +kernel
theorem dX12_kind_29 : decode cX12_kind 29 = .ok (.aload_n 0, 1) := by decide +kernel
theorem dX12_kind_30 : decode cX12_kind 30 = .ok (.bipush (-4), 2) := by decide +kernel
theorem dX12_kind_32 : decode cX12_kind 32 = .ok (.invokevirtual 103, 3) := by decide +kernel
theorem dX12_kind_35 : decode cX12_kind 35 = .ok (.ireturn, 1) := by decide +kernel
theorem dX12_kind_36 : decode cX12_kind 36 = .ok (.iload_n 2, 1) := by decide +kernel
theorem dX12_kind_37 : decode cX12_kind 37 = .ok (.bipush 20, 2) := by decide +kernel
theorem dX12_kind_39 : decode cX12_kind 39 = .ok (.if_icmp .gt 16, 3) := by decide +kernel
theorem dX12_kind_42 : decode cX12_kind 42 = .ok (.iload_n 3, 1) := by decide +kernel
theorem dX12_kind_43 : decode cX12_kind 43 = .ok (.bipush 40, 2) := by decide +kernel
theorem dX12_kind_45 : decode cX12_kind 45 = .ok (.if_icmp .gt 10, 3) := by decide +kernel
theorem dX12_kind_48 : decode cX12_kind 48 = .ok (.iload 4, 2) := by decide +kernel
theorem dX12_kind_50 : decode cX12_kind 50 = .ok (.bipush 30, 2) := by decide +kernel
theorem dX12_kind_52 : decode cX12_kind 52 = .ok (.if_icmp .le 10, 3) := by decide +kernel
theorem dX12_kind_55 : decode cX12_kind 55 = .ok (.aload_n 0, 1) := by decide +kernel
theorem dX12_kind_56 : decode cX12_kind 56 = .ok (.bipush (-6), 2) := by decide +kernel
theorem dX12_kind_58 : decode cX12_kind 58 = .ok (.invokevirtual 103, 3) := by decide +kernel
theorem dX12_kind_61 : decode cX12_kind 61 = .ok (.ireturn, 1) := by decide +kernel
theorem dX12_kind_62 : decode cX12_kind 62 = .ok (.aload_n 0, 1) := by decide +kernel
theorem dX12_kind_63 : decode cX12_kind 63 = .ok (.getfield 16, 3) := by decide +kernel
theorem dX12_kind_66 : decode cX12_kind 66 = .ok (.iload_n 1, 1) := by decide +kernel
theorem dX12_kind_67 : decode cX12_kind 67 = .ok (.iload_n 2, 1) := by decide +kernel
theorem dX12_kind_68 : decode cX12_kind 68 = .ok (.iastore, 1) := by decide +kernel
theorem dX12_kind_69 : decode cX12_kind 69 = .ok (.aload_n 0, 1) := by decide +kernel
theorem dX12_kind_70 : decode cX12_kind 70 = .ok (.getfield 19, 3) := by decide +kernel
theorem dX12_kind_73 : decode cX12_kind 73 = .ok (.iload_n 1, 1) := by decide +kernel
theorem dX12_kind_74 : decode cX12_kind 74 = .ok (.iload_n 3, 1) := by decide +kernel
theorem dX12_kind_75 : decode cX12_kind 75 = .ok (.iastore, 1) := by decide +kernel
theorem dX12_kind_76 : decode cX12_kind 76 = .ok (.aload_n 0, 1) := by decide +kernel
theorem dX12_kind_77 : decode cX12_kind 77 = .ok (.getfield 22, 3) := by decide +kernel
theorem dX12_kind_80 : decode cX12_kind 80 = .ok (.iload_n 1, 1) := by decide +kernel
theorem dX12_kind_81 : decode cX12_kind 81 = .ok (.iload 4, 2) := by decide +kernel
theorem dX12_kind_83 : decode cX12_kind 83 = .ok (.iastore, 1) := by decide +kernel
theorem dX12_kind_84 : decode cX12_kind 84 = .ok (.iconst 1, 1) := by decide +kernel
theorem dX12_kind_85 : decode cX12_kind 85 = .ok (.ireturn, 1) := by decide +kernel
theorem dX12_rags_0 : decode cX12_rags 0 = .ok (.aload_n 0, 1) := by decide +kernel
theorem dX12_rags_1 : decode cX12_rags 1 = .ok (.iload_n 1, 1) := by decide +kernel
theorem dX12_rags_2 : decode cX12_rags 2 = .ok (.invokevirtual 111, 3) := by decide +kernel
theorem dX12_rags_5 : decode cX12_rags 5 = .ok (.ifCond .eq 21, 3) := by decide +kernel
theorem dX12_rags_8 : decode cX12_rags 8 = .ok (.iload_n 2, 1) := by decide +kernel
theorem dX12_rags_9 : decode cX12_rags 9 = .ok (.iconst 1, 1) := by decide +kernel
theorem dX12_rags_10 : decode cX12_rags 10 = .ok (.sipush 20000, 3) := by decide +kernel
theorem dX12_rags_13 : decode cX12_rags 13 = .ok (.aload_n 0, 1) := by decide +kernel
theorem dX12_rags_14 : decode cX12_rags 14 = .ok (.getfield 25, 3) := by decide +kernel
theorem dX12_rags_17 : decode cX12_rags 17 = .ok (.iload_n 1, 1) := by decide +kernel
theorem dX12_rags_18 : decode cX12_rags 18 = .ok (.iaload, 1) := by decide +kernel
theorem dX12_rags_19 : decode cX12_rags 19 = .ok (.isub, 1) := by decide +kernel
theorem dX12_rags_20 : decode cX12_rags 20 = .ok (.invokestatic 99, 3) := by decide +kernel
theorem dX12_rags_23 : decode cX12_rags 23 = .ok (.goto 4, 3) := by decide +kernel
theorem dX12_rags_26 : decode cX12_rags 26 = .ok (.iconst (-1), 1) := by decide +kernel
theorem dX12_rags_27 : decode cX12_rags 27 = .ok (.istore_n 3, 1) := by decide +kernel
theorem dX12_rags_28 : decode cX12_rags 28 = .ok (.iload_n 3, 1) := by decide +kernel
theorem dX12_rags_29 : decode cX12_rags 29 = .ok (.ifCond .eq 9, 3) := by decide +kernel
theorem dX12_rags_32 : decode cX12_rags 32 = .ok (.aload_n 0, 1) := by decide +kernel
theorem dX12_rags_33 : decode cX12_rags 33 = .ok (.iload_n 3, 1) := by decide +kernel
theorem dX12_rags_34 : decode cX12_rags 34 = .ok (.invokevirtual 103, 3) := by decide +kernel
theorem dX12_rags_37 : decode cX12_rags 37 = .ok (.ireturn, 1) := by decide +kernel
theorem dX12_rags_38 : decode cX12_rags 38 = .ok (.aload_n 0, 1) := by decide +kernel
theorem dX12_rags_39 : decode cX12_rags 39 = .ok (.getfield 25, 3) := by decide +kernel
theorem dX12_rags_42 : decode cX12_rags 42 = .ok (.iload_n 1, 1) := by decide +kernel
theorem dX12_rags_43 : decode cX12_rags 43 = .ok (.dup2, 1) := by decide +kernel
theorem dX12_rags_44 : decode cX12_rags 44 = .ok (.iaload, 1) := by decide +kernel
theorem dX12_rags_45 : decode cX12_rags 45 = .ok (.iload_n 2, 1) := by decide +kernel
theorem dX12_rags_46 : decode cX12_rags 46 = .ok (.iadd, 1) := by decide +kernel
theorem dX12_rags_47 : decode cX12_rags 47 = .ok (.iastore, 1) := by decide +kernel
theorem dX12_rags_48 : decode cX12_rags 48 = .ok (.aload_n 0, 1) := by decide +kernel
theorem dX12_rags_49 : decode cX12_rags 49 = .ok (.getfield 25, 3) := by decide +kernel
theorem dX12_rags_52 : decode cX12_rags 52 = .ok (.iload_n 1, 1) := by decide +kernel
theorem dX12_rags_53 : decode cX12_rags 53 = .ok (.iaload, 1) := by decide +kernel
theorem dX12_rags_54 : decode cX12_rags 54 = .ok (.ireturn, 1) := by decide +kernel
theorem dX12_heap_0 : decode cX12_heap 0 = .ok (.aload_n 0, 1) := by decide +kernel
theorem dX12_heap_1 : decode cX12_heap 1 = .ok (.iload_n 1, 1) := by decide +kernel
theorem dX12_heap_2 : decode cX12_heap 2 = .ok (.invokevirtual 111, 3) := by decide +kernel
theorem dX12_heap_5 : decode cX12_heap 5 = .ok (.ifCond .ne 7, 3) := by decide +kernel
theorem dX12_heap_8 : decode cX12_heap 8 = .ok (.iconst (-1), 1) := by decide +kernel
theorem dX12_heap_9 : decode cX12_heap 9 = .ok (.goto 45, 3) := by decide +kernel
theorem dX12_heap_12 : decode cX12_heap 12 = .ok (.iload_n 2, 1) := by decide +kernel
theorem dX12_heap_13 : decode cX12_heap 13 = .ok (.iconst 1, 1) := by decide +kernel
theorem dX12_heap_14 : decode cX12_heap 14 = .ok (.if_icmp .ge 8, 3) := by decide +kernel
theorem dX12_heap_17 : decode cX12_heap 17 = .ok (.bipush (-4), 2) := by decide +kernel
theorem dX12_heap_19 : decode cX12_heap 19 = .ok (.goto 35, 3) := by decide +kernel
theorem dX12_heap_22 : decode cX12_heap 22 = .ok (.iload_n 2, 1) := by decide +kernel
theorem dX12_heap_23 : decode cX12_heap 23 = .ok (.sipush 400, 3) := by decide +kernel
theorem dX12_heap_26 : decode cX12_heap 26 = .ok (.if_icmp .gt 22, 3) := by decide +kernel
theorem dX12_heap_29 : decode cX12_heap 29 = .ok (.iload_n 2, 1) := by decide +kernel
theorem dX12_heap_30 : decode cX12_heap 30 = .ok (.aload_n 0, 1) := by decide +kernel
theorem dX12_heap_31 : decode cX12_heap 31 = .ok (.getfield 25, 3) := by decide +kernel
theorem dX12_heap_34 : decode cX12_heap 34 = .ok (.iload_n 1, 1) := by decide +kernel
theorem dX12_heap_35 : decode cX12_heap 35 = .ok (.iaload, 1) := by decide +kernel
theorem dX12_heap_36 : decode cX12_heap 36 = .ok (.if_icmp .gt 12, 3) := by decide +kernel
theorem dX12_heap_39 : decode cX12_heap 39 = .ok (.aload_n 0, 1) := by decide +kernel
theorem dX12_heap_40 : decode cX12_heap 40 = .ok (.getfield 115, 3) := by decide +kernel
theorem dX12_heap_43 : decode cX12_heap 43 = .ok (.bipush 40, 2) := by decide +kernel
theorem dX12_heap_45 : decode cX12_heap 45 = .ok (.if_icmp .ne 8, 3) := by decide +kernel
theorem dX12_heap_48 : decode cX12_heap 48 = .ok (.bipush (-6), 2) := by decide +kernel
theorem dX12_heap_50 : decode cX12_heap 50 = .ok (.goto 4, 3) := by decide +kernel
theorem dX12_heap_53 : decode cX12_heap 53 = .ok (.iconst 0, 1) := by decide +kernel
theorem dX12_heap_54 : decode cX12_heap 54 = .ok (.istore_n 3, 1) := by decide +kernel
theorem dX12_heap_55 : decode cX12_heap 55 = .ok (.iload_n 3, 1) := by decide +kernel
theorem dX12_heap_56 : decode cX12_heap 56 = .ok (.ifCond .eq 9, 3) := by decide +kernel
theorem dX12_heap_59 : decode cX12_heap 59 = .ok (.aload_n 0, 1) := by decide +kernel
theorem dX12_heap_60 : decode cX12_heap 60 = .ok (.iload_n 3, 1) := by decide +kernel
theorem dX12_heap_61 : decode cX12_heap 61 = .ok (.invokevirtual 103, 3) := by decide +kernel
theorem dX12_heap_64 : decode cX12_heap 64 = .ok (.ireturn, 1) := by decide +kernel
theorem dX12_heap_65 : decode cX12_heap 65 = .ok (.aload_n 0, 1) := by decide +kernel
theorem dX12_heap_66 : decode cX12_heap 66 = .ok (.getfield 25, 3) := by decide +kernel
theorem dX12_heap_69 : decode cX12_heap 69 = .ok (.iload_n 1, 1) := by decide +kernel
theorem dX12_heap_70 : decode cX12_heap 70 = .ok (.dup2, 1) := by decide +kernel
theorem dX12_heap_71 : decode cX12_heap 71 = .ok (.iaload, 1) := by decide +kernel
theorem dX12_heap_72 : decode cX12_heap 72 = .ok (.iload_n 2, 1) := by decide +kernel
theorem dX12_heap_73 : decode cX12_heap 73 = .ok (.isub, 1) := by decide +kernel
theorem dX12_heap_74 : decode cX12_heap 74 = .ok (.iastore, 1) := by decide +kernel
theorem dX12_heap_75 : decode cX12_heap 75 = .ok (.aload_n 0, 1) := by decide +kernel
theorem dX12_heap_76 : decode cX12_heap 76 = .ok (.getfield 34, 3) := by decide +kernel
theorem dX12_heap_79 : decode cX12_heap 79 = .ok (.aload_n 0, 1) := by decide +kernel
theorem dX12_heap_80 : decode cX12_heap 80 = .ok (.getfield 115, 3) := by decide +kernel
theorem dX12_heap_83 : decode cX12_heap 83 = .ok (.iload_n 1, 1) := by decide +kernel
theorem dX12_heap_84 : decode cX12_heap 84 = .ok (.iastore, 1) := by decide +kernel
theorem dX12_heap_85 : decode cX12_heap 85 = .ok (.aload_n 0, 1) := by decide +kernel
theorem dX12_heap_86 : decode cX12_heap 86 = .ok (.getfield 37, 3) := by decide +kernel
theorem dX12_heap_89 : decode cX12_heap 89 = .ok (.aload_n 0, 1) := by decide +kernel
theorem dX12_heap_90 : decode cX12_heap 90 = .ok (.getfield 115, 3) := by decide +kernel
theorem dX12_heap_93 : decode cX12_heap 93 = .ok (.aload_n 0, 1) := by decide +kernel
theorem dX12_heap_94 : decode cX12_heap 94 = .ok (.getfield 86, 3) := by decide +kernel
theorem dX12_heap_97 : decode cX12_heap 97 = .ok (.sipush 751, 3) := by decide +kernel
theorem dX12_heap_100 : decode cX12_heap 100 = .ok (.iaload, 1) := by decide +kernel
theorem dX12_heap_101 : decode cX12_heap 101 = .ok (.iastore, 1) := by decide +kernel
theorem dX12_heap_102 : decode cX12_heap 102 = .ok (.aload_n 0, 1) := by decide +kernel
theorem dX12_heap_103 : decode cX12_heap 103 = .ok (.getfield 86, 3) := by decide +kernel
theorem dX12_heap_106 : decode cX12_heap 106 = .ok (.iconst 0, 1) := by decide +kernel
theorem dX12_heap_107 : decode cX12_heap 107 = .ok (.aload_n 0, 1) := by decide +kernel
theorem dX12_heap_108 : decode cX12_heap 108 = .ok (.getfield 115, 3) := by decide +kernel
theorem dX12_heap_111 : decode cX12_heap 111 = .ok (.iadd, 1) := by decide +kernel
theorem dX12_heap_112 : decode cX12_heap 112 = .ok (.iload_n 2, 1) := by decide +kernel
theorem dX12_heap_113 : decode cX12_heap 113 = .ok (.iastore, 1) := by decide +kernel
theorem dX12_heap_114 : decode cX12_heap 114 = .ok (.aload_n 0, 1) := by decide +kernel
theorem dX12_heap_115 : decode cX12_heap 115 = .ok (.dup, 1) := by decide +kernel
theorem dX12_heap_116 : decode cX12_heap 116 = .ok (.getfield 115, 3) := by decide +kernel
theorem dX12_heap_119 : decode cX12_heap 119 = .ok (.iconst 1, 1) := by decide +kernel
theorem dX12_heap_120 : decode cX12_heap 120 = .ok (.iadd, 1) := by decide +kernel
theorem dX12_heap_121 : decode cX12_heap 121 = .ok (.putfield 115, 3) := by decide +kernel
theorem dX12_heap_124 : decode cX12_heap 124 = .ok (.aload_n 0, 1) := by decide +kernel
theorem dX12_heap_125 : decode cX12_heap 125 = .ok (.getfield 115, 3) := by decide +kernel
theorem dX12_heap_128 : decode cX12_heap 128 = .ok (.iconst 1, 1) := by decide +kernel
theorem dX12_heap_129 : decode cX12_heap 129 = .ok (.isub, 1) := by decide +kernel
theorem dX12_heap_130 : decode cX12_heap 130 = .ok (.ireturn, 1) := by decide +kernel
theorem dX12_age_0 : decode cX12_age 0 = .ok (.aload_n 0, 1) := by decide +kernel
theorem dX12_age_1 : decode cX12_age 1 = .ok (.getfield 86, 3) := by decide +kernel
theorem dX12_age_4 : decode cX12_age 4 = .ok (.sipush 751, 3) := by decide +kernel
theorem dX12_age_7 : decode cX12_age 7 = .ok (.iaload, 1) := by decide +kernel
theorem dX12_age_8 : decode cX12_age 8 = .ok (.aload_n 0, 1) := by decide +kernel
theorem dX12_age_9 : decode cX12_age 9 = .ok (.getfield 37, 3) := by decide +kernel
theorem dX12_age_12 : decode cX12_age 12 = .ok (.iload_n 1, 1) := by decide +kernel
theorem dX12_age_13 : decode cX12_age 13 = .ok (.iaload, 1) := by decide +kernel
theorem dX12_age_14 : decode cX12_age 14 = .ok (.isub, 1) := by decide +kernel
theorem dX12_age_15 : decode cX12_age 15 = .ok (.bipush 24, 2) := by decide +kernel
theorem dX12_age_17 : decode cX12_age 17 = .ok (.idiv, 1) := by decide +kernel
theorem dX12_age_18 : decode cX12_age 18 = .ok (.ireturn, 1) := by decide +kernel
theorem dX12_isRipe_0 : decode cX12_isRipe 0 = .ok (.aload_n 0, 1) := by decide +kernel
theorem dX12_isRipe_1 : decode cX12_isRipe 1 = .ok (.getfield 86, 3) := by decide +kernel
theorem dX12_isRipe_4 : decode cX12_isRipe 4 = .ok (.iconst 0, 1) := by decide +kernel
theorem dX12_isRipe_5 : decode cX12_isRipe 5 = .ok (.iload_n 1, 1) := by decide +kernel
theorem dX12_isRipe_6 : decode cX12_isRipe 6 = .ok (.iadd, 1) := by decide +kernel
theorem dX12_isRipe_7 : decode cX12_isRipe 7 = .ok (.iaload, 1) := by decide +kernel
theorem dX12_isRipe_8 : decode cX12_isRipe 8 = .ok (.ifCond .le 26, 3) := by decide +kernel
theorem dX12_isRipe_11 : decode cX12_isRipe 11 = .ok (.aload_n 0, 1) := by decide +kernel
theorem dX12_isRipe_12 : decode cX12_isRipe 12 = .ok (.iload_n 1, 1) := by decide +kernel
theorem dX12_isRipe_13 : decode cX12_isRipe 13 = .ok (.invokevirtual 118, 3) := by decide +kernel
theorem dX12_isRipe_16 : decode cX12_isRipe 16 = .ok (.aload_n 0, 1) := by decide +kernel
theorem dX12_isRipe_17 : decode cX12_isRipe 17 = .ok (.getfield 16, 3) := by decide +kernel
theorem dX12_isRipe_20 : decode cX12_isRipe 20 = .ok (.aload_n 0, 1) := by decide +kernel
theorem dX12_isRipe_21 : decode cX12_isRipe 21 = .ok (.getfield 34, 3) := by decide +kernel
theorem dX12_isRipe_24 : decode cX12_isRipe 24 = .ok (.iload_n 1, 1) := by decide +kernel
theorem dX12_isRipe_25 : decode cX12_isRipe 25 = .ok (.iaload, 1) := by decide +kernel
theorem dX12_isRipe_26 : decode cX12_isRipe 26 = .ok (.iaload, 1) := by decide +kernel
theorem dX12_isRipe_27 : decode cX12_isRipe 27 = .ok (.if_icmp .lt 7, 3) := by decide +kernel
theorem dX12_isRipe_30 : decode cX12_isRipe 30 = .ok (.iconst 1, 1) := by decide +kernel
theorem dX12_isRipe_31 : decode cX12_isRipe 31 = .ok (.goto 4, 3) := by decide +kernel
theorem dX12_isRipe_34 : decode cX12_isRipe 34 = .ok (.iconst 0, 1) := by decide +kernel
theorem dX12_isRipe_35 : decode cX12_isRipe 35 = .ok (.ireturn, 1) := by decide +kernel
theorem dX12_load_0 : decode cX12_load 0 = .ok (.iload_n 1, 1) := by decide +kernel
theorem dX12_load_1 : decode cX12_load 1 = .ok (.iconst 4, 1) := by decide +kernel
theorem dX12_load_2 : decode cX12_load 2 = .ok (.invokestatic 95, 3) := by decide +kernel
theorem dX12_load_5 : decode cX12_load 5 = .ok (.ifCond .eq 14, 3) := by decide +kernel
theorem dX12_load_8 : decode cX12_load 8 = .ok (.iload_n 2, 1) := by decide +kernel
theorem dX12_load_9 : decode cX12_load 9 = .ok (.aload_n 0, 1) := by decide +kernel
theorem dX12_load_10 : decode cX12_load 10 = .ok (.getfield 115, 3) := by decide +kernel
theorem dX12_load_13 : decode cX12_load 13 = .ok (.invokestatic 95, 3) := by decide +kernel
theorem dX12_load_16 : decode cX12_load 16 = .ok (.ifCond .ne 9, 3) := by decide +kernel
theorem dX12_load_19 : decode cX12_load 19 = .ok (.aload_n 0, 1) := by decide +kernel
theorem dX12_load_20 : decode cX12_load 20 = .ok (.iconst (-1), 1) := by decide +kernel
theorem dX12_load_21 : decode cX12_load 21 = .ok (.invokevirtual 103, 3) := by decide +kernel
theorem dX12_load_24 : decode cX12_load 24 = .ok (.ireturn, 1) := by decide +kernel
theorem dX12_load_25 : decode cX12_load 25 = .ok (.aload_n 0, 1) := by decide +kernel
theorem dX12_load_26 : decode cX12_load 26 = .ok (.getfield 86, 3) := by decide +kernel
theorem dX12_load_29 : decode cX12_load 29 = .ok (.bipush 80, 2) := by decide +kernel
theorem dX12_load_31 : decode cX12_load 31 = .ok (.iconst 4, 1) := by decide +kernel
theorem dX12_load_32 : decode cX12_load 32 = .ok (.iload_n 1, 1) := by decide +kernel
theorem dX12_load_33 : decode cX12_load 33 = .ok (.imul, 1) := by decide +kernel
theorem dX12_load_34 : decode cX12_load 34 = .ok (.iadd, 1) := by decide +kernel
theorem dX12_load_35 : decode cX12_load 35 = .ok (.iaload, 1) := by decide +kernel
theorem dX12_load_36 : decode cX12_load 36 = .ok (.ifCond .gt 11, 3) := by decide +kernel
theorem dX12_load_39 : decode cX12_load 39 = .ok (.aload_n 0, 1) := by decide +kernel
theorem dX12_load_40 : decode cX12_load 40 = .ok (.iload_n 2, 1) := by decide +kernel
theorem dX12_load_41 : decode cX12_load 41 = .ok (.invokevirtual 121, 3) := by decide +kernel
theorem dX12_load_44 : decode cX12_load 44 = .ok (.ifCond .ne 10, 3) := by decide +kernel
theorem dX12_load_47 : decode cX12_load 47 = .ok (.aload_n 0, 1) := by decide +kernel
theorem dX12_load_48 : decode cX12_load 48 = .ok (.bipush (-3), 2) := by decide +kernel
theorem dX12_load_50 : decode cX12_load 50 = .ok (.invokevirtual 103, 3) := by decide +kernel
theorem dX12_load_53 : decode cX12_load 53 = .ok (.ireturn, 1) := by decide +kernel
theorem dX12_load_54 : decode cX12_load 54 = .ok (.iload_n 3, 1) := by decide +kernel
theorem dX12_load_55 : decode cX12_load 55 = .ok (.iconst 1, 1) := by decide +kernel
theorem dX12_load_56 : decode cX12_load 56 = .ok (.bipush 100, 2) := by decide +kernel
theorem dX12_load_58 : decode cX12_load 58 = .ok (.aload_n 0, 1) := by decide +kernel
theorem dX12_load_59 : decode cX12_load 59 = .ok (.getfield 86, 3) := by decide +kernel
theorem dX12_load_62 : decode cX12_load 62 = .ok (.iconst 0, 1) := by decide +kernel
theorem dX12_load_63 : decode cX12_load 63 = .ok (.iload_n 2, 1) := by decide +kernel
theorem dX12_load_64 : decode cX12_load 64 = .ok (.iadd, 1) := by decide +kernel
theorem dX12_load_65 : decode cX12_load 65 = .ok (.iaload, 1) := by decide +kernel
theorem dX12_load_66 : decode cX12_load 66 = .ok (.invokestatic 124, 3) := by decide +kernel
theorem dX12_load_69 : decode cX12_load 69 = .ok (.invokestatic 99, 3) := by decide +kernel
theorem dX12_load_72 : decode cX12_load 72 = .ok (.istore 4, 2) := by decide +kernel
theorem dX12_load_74 : decode cX12_load 74 = .ok (.iload 4, 2) := by decide +kernel
theorem dX12_load_76 : decode cX12_load 76 = .ok (.ifCond .eq 10, 3) := by decide +kernel
theorem dX12_load_79 : decode cX12_load 79 = .ok (.aload_n 0, 1) := by decide +kernel
theorem dX12_load_80 : decode cX12_load 80 = .ok (.iload 4, 2) := by decide +kernel
theorem dX12_load_82 : decode cX12_load 82 = .ok (.invokevirtual 103, 3) := by decide +kernel
theorem dX12_load_85 : decode cX12_load 85 = .ok (.ireturn, 1) := by decide +kernel
theorem dX12_load_86 : decode cX12_load 86 = .ok (.aload_n 0, 1) := by decide +kernel
theorem dX12_load_87 : decode cX12_load 87 = .ok (.getfield 86, 3) := by decide +kernel
theorem dX12_load_90 : decode cX12_load 90 = .ok (.iconst 0, 1) := by decide +kernel
theorem dX12_load_91 : decode cX12_load 91 = .ok (.iload_n 2, 1) := by decide +kernel
theorem dX12_load_92 : decode cX12_load 92 = .ok (.iadd, 1) := by decide +kernel
theorem dX12_load_93 : decode cX12_load 93 = .ok (.dup2, 1) := by decide +kernel
theorem dX12_load_94 : decode cX12_load 94 = .ok (.iaload, 1) := by decide +kernel
theorem dX12_load_95 : decode cX12_load 95 = .ok (.iload_n 3, 1) := by decide +kernel
theorem dX12_load_96 : decode cX12_load 96 = .ok (.isub, 1) := by decide +kernel
theorem dX12_load_97 : decode cX12_load 97 = .ok (.iastore, 1) := by decide +kernel
theorem dX12_load_98 : decode cX12_load 98 = .ok (.aload_n 0, 1) := by decide +kernel
theorem dX12_load_99 : decode cX12_load 99 = .ok (.getfield 86, 3) := by decide +kernel
theorem dX12_load_102 : decode cX12_load 102 = .ok (.bipush 80, 2) := by decide +kernel
theorem dX12_load_104 : decode cX12_load 104 = .ok (.iconst 4, 1) := by decide +kernel
theorem dX12_load_105 : decode cX12_load 105 = .ok (.iload_n 1, 1) := by decide +kernel
theorem dX12_load_106 : decode cX12_load 106 = .ok (.imul, 1) := by decide +kernel
theorem dX12_load_107 : decode cX12_load 107 = .ok (.iadd, 1) := by decide +kernel
theorem dX12_load_108 : decode cX12_load 108 = .ok (.iload_n 3, 1) := by decide +kernel
theorem dX12_load_109 : decode cX12_load 109 = .ok (.iastore, 1) := by decide +kernel
theorem dX12_load_110 : decode cX12_load 110 = .ok (.aload_n 0, 1) := by decide +kernel
theorem dX12_load_111 : decode cX12_load 111 = .ok (.getfield 86, 3) := by decide +kernel
theorem dX12_load_114 : decode cX12_load 114 = .ok (.bipush 80, 2) := by decide +kernel
theorem dX12_load_116 : decode cX12_load 116 = .ok (.iconst 4, 1) := by decide +kernel
theorem dX12_load_117 : decode cX12_load 117 = .ok (.iload_n 1, 1) := by decide +kernel
theorem dX12_load_118 : decode cX12_load 118 = .ok (.imul, 1) := by decide +kernel
theorem dX12_load_119 : decode cX12_load 119 = .ok (.iadd, 1) := by decide +kernel
theorem dX12_load_120 : decode cX12_load 120 = .ok (.iconst 1, 1) := by decide +kernel
theorem dX12_load_121 : decode cX12_load 121 = .ok (.iadd, 1) := by decide +kernel
theorem dX12_load_122 : decode cX12_load 122 = .ok (.aload_n 0, 1) := by decide +kernel
theorem dX12_load_123 : decode cX12_load 123 = .ok (.getfield 34, 3) := by decide +kernel
theorem dX12_load_126 : decode cX12_load 126 = .ok (.iload_n 2, 1) := by decide +kernel
theorem dX12_load_127 : decode cX12_load 127 = .ok (.iaload, 1) := by decide +kernel
theorem dX12_load_128 : decode cX12_load 128 = .ok (.iastore, 1) := by decide +kernel
theorem dX12_load_129 : decode cX12_load 129 = .ok (.aload_n 0, 1) := by decide +kernel
theorem dX12_load_130 : decode cX12_load 130 = .ok (.getfield 86, 3) := by decide +kernel
theorem dX12_load_133 : decode cX12_load 133 = .ok (.bipush 80, 2) := by decide +kernel
theorem dX12_load_135 : decode cX12_load 135 = .ok (.iconst 4, 1) := by decide +kernel
theorem dX12_load_136 : decode cX12_load 136 = .ok (.iload_n 1, 1) := by decide +kernel
theorem dX12_load_137 : decode cX12_load 137 = .ok (.imul, 1) := by decide +kernel
theorem dX12_load_138 : decode cX12_load 138 = .ok (.iadd, 1) := by decide +kernel
theorem dX12_load_139 : decode cX12_load 139 = .ok (.iconst 2, 1) := by decide +kernel
theorem dX12_load_140 : decode cX12_load 140 = .ok (.iadd, 1) := by decide +kernel
theorem dX12_load_141 : decode cX12_load 141 = .ok (.aload_n 0, 1) := by decide +kernel
theorem dX12_load_142 : decode cX12_load 142 = .ok (.getfield 22, 3) := by decide +kernel
theorem dX12_load_145 : decode cX12_load 145 = .ok (.aload_n 0, 1) := by decide +kernel
theorem dX12_load_146 : decode cX12_load 146 = .ok (.getfield 34, 3) := by decide +kernel
theorem dX12_load_149 : decode cX12_load 149 = .ok (.iload_n 2, 1) := by decide +kernel
theorem dX12_load_150 : decode cX12_load 150 = .ok (.iaload, 1) := by decide +kernel
theorem dX12_load_151 : decode cX12_load 151 = .ok (.iaload, 1) := by decide +kernel
theorem dX12_load_152 : decode cX12_load 152 = .ok (.iastore, 1) := by decide +kernel
theorem dX12_load_153 : decode cX12_load 153 = .ok (.aload_n 0, 1) := by decide +kernel
theorem dX12_load_154 : decode cX12_load 154 = .ok (.getfield 22, 3) := by decide +kernel
theorem dX12_load_157 : decode cX12_load 157 = .ok (.aload_n 0, 1) := by decide +kernel
theorem dX12_load_158 : decode cX12_load 158 = .ok (.getfield 34, 3) := by decide +kernel
theorem dX12_load_161 : decode cX12_load 161 = .ok (.iload_n 2, 1) := by decide +kernel
theorem dX12_load_162 : decode cX12_load 162 = .ok (.iaload, 1) := by decide +kernel
theorem dX12_load_163 : decode cX12_load 163 = .ok (.iaload, 1) := by decide +kernel
theorem dX12_load_164 : decode cX12_load 164 = .ok (.ireturn, 1) := by decide +kernel
theorem dX12_pair_0 : decode cX12_pair 0 = .ok (.iload_n 1, 1) := by decide +kernel
theorem dX12_pair_1 : decode cX12_pair 1 = .ok (.iconst 1, 1) := by decide +kernel
theorem dX12_pair_2 : decode cX12_pair 2 = .ok (.isub, 1) := by decide +kernel
theorem dX12_pair_3 : decode cX12_pair 3 = .ok (.bipush 8, 2) := by decide +kernel
theorem dX12_pair_5 : decode cX12_pair 5 = .ok (.invokestatic 95, 3) := by decide +kernel
theorem dX12_pair_8 : decode cX12_pair 8 = .ok (.ifCond .ne 9, 3) := by decide +kernel
theorem dX12_pair_11 : decode cX12_pair 11 = .ok (.aload_n 0, 1) := by decide +kernel
theorem dX12_pair_12 : decode cX12_pair 12 = .ok (.iconst (-1), 1) := by decide +kernel
theorem dX12_pair_13 : decode cX12_pair 13 = .ok (.invokevirtual 103, 3) := by decide +kernel
theorem dX12_pair_16 : decode cX12_pair 16 = .ok (.ireturn, 1) := by decide +kernel
theorem dX12_pair_17 : decode cX12_pair 17 = .ok (.aload_n 0, 1) := by decide +kernel
theorem dX12_pair_18 : decode cX12_pair 18 = .ok (.getfield 129, 3) := by decide +kernel
theorem dX12_pair_21 : decode cX12_pair 21 = .ok (.iconst 4, 1) := by decide +kernel
theorem dX12_pair_22 : decode cX12_pair 22 = .ok (.if_icmp .ne 10, 3) := by decide +kernel
theorem dX12_pair_25 : decode cX12_pair 25 = .ok (.aload_n 0, 1) := by decide +kernel
theorem dX12_pair_26 : decode cX12_pair 26 = .ok (.bipush (-6), 2) := by decide +kernel
theorem dX12_pair_28 : decode cX12_pair 28 = .ok (.invokevirtual 103, 3) := by decide +kernel
theorem dX12_pair_31 : decode cX12_pair 31 = .ok (.ireturn, 1) := by decide +kernel
theorem dX12_pair_32 : decode cX12_pair 32 = .ok (.aload_n 0, 1) := by decide +kernel
theorem dX12_pair_33 : decode cX12_pair 33 = .ok (.getfield 40, 3) := by decide +kernel
theorem dX12_pair_36 : decode cX12_pair 36 = .ok (.aload_n 0, 1) := by decide +kernel
theorem dX12_pair_37 : decode cX12_pair 37 = .ok (.getfield 129, 3) := by decide +kernel
theorem dX12_pair_40 : decode cX12_pair 40 = .ok (.iload_n 1, 1) := by decide +kernel
theorem dX12_pair_41 : decode cX12_pair 41 = .ok (.iastore, 1) := by decide +kernel
theorem dX12_pair_42 : decode cX12_pair 42 = .ok (.iconst 0, 1) := by decide +kernel
theorem dX12_pair_43 : decode cX12_pair 43 = .ok (.istore_n 2, 1) := by decide +kernel
theorem dX12_pair_44 : decode cX12_pair 44 = .ok (.iload_n 2, 1) := by decide +kernel
theorem dX12_pair_45 : decode cX12_pair 45 = .ok (.bipush 12, 2) := by decide +kernel
theorem dX12_pair_47 : decode cX12_pair 47 = .ok (.if_icmp .ge 25, 3) := by decide +kernel
theorem dX12_pair_50 : decode cX12_pair 50 = .ok (.aload_n 0, 1) := by decide +kernel
theorem dX12_pair_51 : decode cX12_pair 51 = .ok (.getfield 43, 3) := by decide +kernel
theorem dX12_pair_54 : decode cX12_pair 54 = .ok (.bipush 12, 2) := by decide +kernel
theorem dX12_pair_56 : decode cX12_pair 56 = .ok (.aload_n 0, 1) := by decide +kernel
theorem dX12_pair_57 : decode cX12_pair 57 = .ok (.getfield 129, 3) := by decide +kernel
theorem dX12_pair_60 : decode cX12_pair 60 = .ok (.imul, 1) := by decide +kernel
theorem dX12_pair_61 : decode cX12_pair 61 = .ok (.iload_n 2, 1) := by decide +kernel
theorem dX12_pair_62 : decode cX12_pair 62 = .ok (.iadd, 1) := by decide +kernel
theorem dX12_pair_63 : decode cX12_pair 63 = .ok (.bipush 50, 2) := by decide +kernel
theorem dX12_pair_65 : decode cX12_pair 65 = .ok (.iastore, 1) := by decide +kernel
theorem dX12_pair_66 : decode cX12_pair 66 = .ok (.iinc 2 1, 3) := by decide +kernel
theorem dX12_pair_69 : decode cX12_pair 69 = .ok (.goto (-25), 3) := by decide +kernel
theorem dX12_pair_72 : decode cX12_pair 72 = .ok (.aload_n 0, 1) := by decide +kernel
theorem dX12_pair_73 : decode cX12_pair 73 = .ok (.dup, 1) := by decide +kernel
theorem dX12_pair_74 : decode cX12_pair 74 = .ok (.getfield 129, 3) := by decide +kernel
theorem dX12_pair_77 : decode cX12_pair 77 = .ok (.iconst 1, 1) := by decide +kernel
theorem dX12_pair_78 : decode cX12_pair 78 = .ok (.iadd, 1) := by decide +kernel
theorem dX12_pair_79 : decode cX12_pair 79 = .ok (.putfield 129, 3) := by decide +kernel
theorem dX12_pair_82 : decode cX12_pair 82 = .ok (.aload_n 0, 1) := by decide +kernel
theorem dX12_pair_83 : decode cX12_pair 83 = .ok (.getfield 129, 3) := by decide +kernel
theorem dX12_pair_86 : decode cX12_pair 86 = .ok (.iconst 1, 1) := by decide +kernel
theorem dX12_pair_87 : decode cX12_pair 87 = .ok (.isub, 1) := by decide +kernel
theorem dX12_pair_88 : decode cX12_pair 88 = .ok (.ireturn, 1) := by decide +kernel
theorem dX12_isBegun_0 : decode cX12_isBegun 0 = .ok (.iconst 0, 1) := by decide +kernel
theorem dX12_isBegun_1 : decode cX12_isBegun 1 = .ok (.istore_n 2, 1) := by decide +kernel
theorem dX12_isBegun_2 : decode cX12_isBegun 2 = .ok (.iconst 0, 1) := by decide +kernel
theorem dX12_isBegun_3 : decode cX12_isBegun 3 = .ok (.istore_n 3, 1) := by decide +kernel
theorem dX12_isBegun_4 : decode cX12_isBegun 4 = .ok (.iload_n 3, 1) := by decide +kernel
theorem dX12_isBegun_5 : decode cX12_isBegun 5 = .ok (.iconst 3, 1) := by decide +kernel
theorem dX12_isBegun_6 : decode cX12_isBegun 6 = .ok (.if_icmp .ge 43, 3) := by decide +kernel
theorem dX12_isBegun_9 : decode cX12_isBegun 9 = .ok (.iload_n 2, 1) := by decide +kernel
theorem dX12_isBegun_10 : decode cX12_isBegun 10 = .ok (.ifCond .ne 27, 3) := by decide +kernel
theorem dX12_isBegun_13 : decode cX12_isBegun 13 = .ok (.aload_n 0, 1) := by decide +kernel
theorem dX12_isBegun_14 : decode cX12_isBegun 14 = .ok (.getfield 49, 3) := by decide +kernel
theorem dX12_isBegun_17 : decode cX12_isBegun 17 = .ok (.iload_n 3, 1) := by decide +kernel
theorem dX12_isBegun_18 : decode cX12_isBegun 18 = .ok (.iaload, 1) := by decide +kernel
theorem dX12_isBegun_19 : decode cX12_isBegun 19 = .ok (.iload_n 1, 1) := by decide +kernel
theorem dX12_isBegun_20 : decode cX12_isBegun 20 = .ok (.if_icmp .ne 21, 3) := by decide +kernel
theorem dX12_isBegun_23 : decode cX12_isBegun 23 = .ok (.aload_n 0, 1) := by decide +kernel
theorem dX12_isBegun_24 : decode cX12_isBegun 24 = .ok (.getfield 86, 3) := by decide +kernel
theorem dX12_isBegun_27 : decode cX12_isBegun 27 = .ok (.bipush 105, 2) := by decide +kernel
theorem dX12_isBegun_29 : decode cX12_isBegun 29 = .ok (.iconst 2, 1) := by decide +kernel
theorem dX12_isBegun_30 : decode cX12_isBegun 30 = .ok (.iload_n 3, 1) := by decide +kernel
theorem dX12_isBegun_31 : decode cX12_isBegun 31 = .ok (.imul, 1) := by decide +kernel
theorem dX12_isBegun_32 : decode cX12_isBegun 32 = .ok (.iadd, 1) := by decide +kernel
theorem dX12_isBegun_33 : decode cX12_isBegun 33 = .ok (.iaload, 1) := by decide +kernel
theorem dX12_isBegun_34 : decode cX12_isBegun 34 = .ok (.ifCond .le 7, 3) := by decide +kernel
theorem dX12_isBegun_37 : decode cX12_isBegun 37 = .ok (.iconst 1, 1) := by decide +kernel
theorem dX12_isBegun_38 : decode cX12_isBegun 38 = .ok (.goto 4, 3) := by decide +kernel
theorem dX12_isBegun_41 : decode cX12_isBegun 41 = .ok (.iconst 0, 1) := by decide +kernel
theorem dX12_isBegun_42 : decode cX12_isBegun 42 = .ok (.istore_n 2, 1) := by decide +kernel
theorem dX12_isBegun_43 : decode cX12_isBegun 43 = .ok (.iinc 3 1, 3) := by decide +kernel
theorem dX12_isBegun_46 : decode cX12_isBegun 46 = .ok (.goto (-42), 3) := by decide +kernel
theorem dX12_isBegun_49 : decode cX12_isBegun 49 = .ok (.iload_n 2, 1) := by decide +kernel
theorem dX12_isBegun_50 : decode cX12_isBegun 50 = .ok (.ireturn, 1) := by decide +kernel
theorem dX12_wire_0 : decode cX12_wire 0 = .ok (.iload_n 1, 1) := by decide +kernel
theorem dX12_wire_1 : decode cX12_wire 1 = .ok (.iconst 2, 1) := by decide +kernel
end
section
theorem dX12_wire_2 : decode cX12_wire 2 = .ok (.aload_n 0, 1) := by decide +kernel
theorem dX12_wire_3 : decode cX12_wire 3 = .ok (.getfield 129, 3) := by decide +kernel
theorem dX12_wire_6 : decode cX12_wire 6 = .ok (.imul, 1) := by decide +kernel
theorem dX12_wire_7 : decode cX12_wire 7 = .ok (.invokestatic 95, 3) := by decide +kernel
theorem dX12_wire_10 : decode cX12_wire 10 = .ok (.ifCond .eq 12, 3) := by decide +kernel
theorem dX12_wire_13 : decode cX12_wire 13 = .ok (.iload_n 2, 1) := by decide +kernel
theorem dX12_wire_14 : decode cX12_wire 14 = .ok (.bipush 6, 2) := by decide +kernel
theorem dX12_wire_16 : decode cX12_wire 16 = .ok (.invokestatic 95, 3) := by decide +kernel
theorem dX12_wire_19 : decode cX12_wire 19 = .ok (.ifCond .ne 9, 3) := by decide +kernel
theorem dX12_wire_22 : decode cX12_wire 22 = .ok (.aload_n 0, 1) := by decide +kernel
theorem dX12_wire_23 : decode cX12_wire 23 = .ok (.iconst (-1), 1) := by decide +kernel
theorem dX12_wire_24 : decode cX12_wire 24 = .ok (.invokevirtual 103, 3) := by decide +kernel
theorem dX12_wire_27 : decode cX12_wire 27 = .ok (.ireturn, 1) := by decide +kernel
theorem dX12_wire_28 : decode cX12_wire 28 = .ok (.aload_n 0, 1) := by decide +kernel
theorem dX12_wire_29 : decode cX12_wire 29 = .ok (.iload_n 1, 1) := by decide +kernel
theorem dX12_wire_30 : decode cX12_wire 30 = .ok (.iconst 2, 1) := by decide +kernel
theorem dX12_wire_31 : decode cX12_wire 31 = .ok (.idiv, 1) := by decide +kernel
theorem dX12_wire_32 : decode cX12_wire 32 = .ok (.invokevirtual 132, 3) := by decide +kernel
theorem dX12_wire_35 : decode cX12_wire 35 = .ok (.ifCond .eq 10, 3) := by decide +kernel
theorem dX12_wire_38 : decode cX12_wire 38 = .ok (.aload_n 0, 1) := by decide +kernel
theorem dX12_wire_39 : decode cX12_wire 39 = .ok (.bipush (-3), 2) := by decide +kernel
theorem dX12_wire_41 : decode cX12_wire 41 = .ok (.invokevirtual 103, 3) := by decide +kernel
theorem dX12_wire_44 : decode cX12_wire 44 = .ok (.ireturn, 1) := by decide +kernel
theorem dX12_wire_45 : decode cX12_wire 45 = .ok (.iload_n 3, 1) := by decide +kernel
theorem dX12_wire_46 : decode cX12_wire 46 = .ok (.iconst 0, 1) := by decide +kernel
theorem dX12_wire_47 : decode cX12_wire 47 = .ok (.bipush 99, 2) := by decide +kernel
theorem dX12_wire_49 : decode cX12_wire 49 = .ok (.invokestatic 99, 3) := by decide +kernel
theorem dX12_wire_52 : decode cX12_wire 52 = .ok (.istore 4, 2) := by decide +kernel
theorem dX12_wire_54 : decode cX12_wire 54 = .ok (.iload 4, 2) := by decide +kernel
theorem dX12_wire_56 : decode cX12_wire 56 = .ok (.ifCond .eq 10, 3) := by decide +kernel
theorem dX12_wire_59 : decode cX12_wire 59 = .ok (.aload_n 0, 1) := by decide +kernel
theorem dX12_wire_60 : decode cX12_wire 60 = .ok (.iload 4, 2) := by decide +kernel
theorem dX12_wire_62 : decode cX12_wire 62 = .ok (.invokevirtual 103, 3) := by decide +kernel
theorem dX12_wire_65 : decode cX12_wire 65 = .ok (.ireturn, 1) := by decide +kernel
theorem dX12_wire_66 : decode cX12_wire 66 = .ok (.aload_n 0, 1) := by decide +kernel
theorem dX12_wire_67 : decode cX12_wire 67 = .ok (.getfield 43, 3) := by decide +kernel
theorem dX12_wire_70 : decode cX12_wire 70 = .ok (.bipush 6, 2) := by decide +kernel
theorem dX12_wire_72 : decode cX12_wire 72 = .ok (.iload_n 1, 1) := by decide +kernel
theorem dX12_wire_73 : decode cX12_wire 73 = .ok (.imul, 1) := by decide +kernel
theorem dX12_wire_74 : decode cX12_wire 74 = .ok (.iload_n 2, 1) := by decide +kernel
theorem dX12_wire_75 : decode cX12_wire 75 = .ok (.iadd, 1) := by decide +kernel
theorem dX12_wire_76 : decode cX12_wire 76 = .ok (.iaload, 1) := by decide +kernel
theorem dX12_wire_77 : decode cX12_wire 77 = .ok (.istore 5, 2) := by decide +kernel
theorem dX12_wire_79 : decode cX12_wire 79 = .ok (.aload_n 0, 1) := by decide +kernel
theorem dX12_wire_80 : decode cX12_wire 80 = .ok (.getfield 43, 3) := by decide +kernel
theorem dX12_wire_83 : decode cX12_wire 83 = .ok (.bipush 6, 2) := by decide +kernel
theorem dX12_wire_85 : decode cX12_wire 85 = .ok (.iload_n 1, 1) := by decide +kernel
theorem dX12_wire_86 : decode cX12_wire 86 = .ok (.imul, 1) := by decide +kernel
theorem dX12_wire_87 : decode cX12_wire 87 = .ok (.iload_n 2, 1) := by decide +kernel
theorem dX12_wire_88 : decode cX12_wire 88 = .ok (.iadd, 1) := by decide +kernel
theorem dX12_wire_89 : decode cX12_wire 89 = .ok (.iload_n 3, 1) := by decide +kernel
theorem dX12_wire_90 : decode cX12_wire 90 = .ok (.iastore, 1) := by decide +kernel
theorem dX12_wire_91 : decode cX12_wire 91 = .ok (.iload 5, 2) := by decide +kernel
theorem dX12_wire_93 : decode cX12_wire 93 = .ok (.ireturn, 1) := by decide +kernel
theorem dX12_mouldOf_0 : decode cX12_mouldOf 0 = .ok (.iload_n 1, 1) := by decide +kernel
theorem dX12_mouldOf_1 : decode cX12_mouldOf 1 = .ok (.iconst 2, 1) := by decide +kernel
theorem dX12_mouldOf_2 : decode cX12_mouldOf 2 = .ok (.aload_n 0, 1) := by decide +kernel
theorem dX12_mouldOf_3 : decode cX12_mouldOf 3 = .ok (.getfield 129, 3) := by decide +kernel
theorem dX12_mouldOf_6 : decode cX12_mouldOf 6 = .ok (.imul, 1) := by decide +kernel
theorem dX12_mouldOf_7 : decode cX12_mouldOf 7 = .ok (.invokestatic 95, 3) := by decide +kernel
theorem dX12_mouldOf_10 : decode cX12_mouldOf 10 = .ok (.ifCond .ne 9, 3) := by decide +kernel
theorem dX12_mouldOf_13 : decode cX12_mouldOf 13 = .ok (.aload_n 0, 1) := by decide +kernel
theorem dX12_mouldOf_14 : decode cX12_mouldOf 14 = .ok (.iconst (-1), 1) := by decide +kernel
theorem dX12_mouldOf_15 : decode cX12_mouldOf 15 = .ok (.invokevirtual 103, 3) := by decide +kernel
theorem dX12_mouldOf_18 : decode cX12_mouldOf 18 = .ok (.ireturn, 1) := by decide +kernel
theorem dX12_mouldOf_19 : decode cX12_mouldOf 19 = .ok (.iload_n 2, 1) := by decide +kernel
theorem dX12_mouldOf_20 : decode cX12_mouldOf 20 = .ok (.bipush 7, 2) := by decide +kernel
theorem dX12_mouldOf_22 : decode cX12_mouldOf 22 = .ok (.invokestatic 95, 3) := by decide +kernel
theorem dX12_mouldOf_25 : decode cX12_mouldOf 25 = .ok (.ifCond .ne 10, 3) := by decide +kernel
theorem dX12_mouldOf_28 : decode cX12_mouldOf 28 = .ok (.aload_n 0, 1) := by decide +kernel
theorem dX12_mouldOf_29 : decode cX12_mouldOf 29 = .ok (.bipush (-2), 2) := by decide +kernel
theorem dX12_mouldOf_31 : decode cX12_mouldOf 31 = .ok (.invokevirtual 103, 3) := by decide +kernel
theorem dX12_mouldOf_34 : decode cX12_mouldOf 34 = .ok (.ireturn, 1) := by decide +kernel
theorem dX12_mouldOf_35 : decode cX12_mouldOf 35 = .ok (.iload_n 2, 1) := by decide +kernel
theorem dX12_mouldOf_36 : decode cX12_mouldOf 36 = .ok (.bipush 6, 2) := by decide +kernel
theorem dX12_mouldOf_38 : decode cX12_mouldOf 38 = .ok (.if_icmp .ne 12, 3) := by decide +kernel
theorem dX12_mouldOf_41 : decode cX12_mouldOf 41 = .ok (.aload_n 0, 1) := by decide +kernel
theorem dX12_mouldOf_42 : decode cX12_mouldOf 42 = .ok (.getfield 46, 3) := by decide +kernel
theorem dX12_mouldOf_45 : decode cX12_mouldOf 45 = .ok (.iload_n 1, 1) := by decide +kernel
theorem dX12_mouldOf_46 : decode cX12_mouldOf 46 = .ok (.iaload, 1) := by decide +kernel
theorem dX12_mouldOf_47 : decode cX12_mouldOf 47 = .ok (.goto 14, 3) := by decide +kernel
theorem dX12_mouldOf_50 : decode cX12_mouldOf 50 = .ok (.aload_n 0, 1) := by decide +kernel
theorem dX12_mouldOf_51 : decode cX12_mouldOf 51 = .ok (.getfield 43, 3) := by decide +kernel
theorem dX12_mouldOf_54 : decode cX12_mouldOf 54 = .ok (.bipush 6, 2) := by decide +kernel
theorem dX12_mouldOf_56 : decode cX12_mouldOf 56 = .ok (.iload_n 1, 1) := by decide +kernel
theorem dX12_mouldOf_57 : decode cX12_mouldOf 57 = .ok (.imul, 1) := by decide +kernel
theorem dX12_mouldOf_58 : decode cX12_mouldOf 58 = .ok (.iload_n 2, 1) := by decide +kernel
theorem dX12_mouldOf_59 : decode cX12_mouldOf 59 = .ok (.iadd, 1) := by decide +kernel
theorem dX12_mouldOf_60 : decode cX12_mouldOf 60 = .ok (.iaload, 1) := by decide +kernel
theorem dX12_mouldOf_61 : decode cX12_mouldOf 61 = .ok (.ireturn, 1) := by decide +kernel
theorem dX12_vat_0 : decode cX12_vat 0 = .ok (.iload_n 1, 1) := by decide +kernel
theorem dX12_vat_1 : decode cX12_vat 1 = .ok (.iconst 3, 1) := by decide +kernel
theorem dX12_vat_2 : decode cX12_vat 2 = .ok (.invokestatic 95, 3) := by decide +kernel
theorem dX12_vat_5 : decode cX12_vat 5 = .ok (.ifCond .eq 19, 3) := by decide +kernel
theorem dX12_vat_8 : decode cX12_vat 8 = .ok (.iload_n 2, 1) := by decide +kernel
theorem dX12_vat_9 : decode cX12_vat 9 = .ok (.iconst (-1), 1) := by decide +kernel
theorem dX12_vat_10 : decode cX12_vat 10 = .ok (.if_icmp .eq 20, 3) := by decide +kernel
theorem dX12_vat_13 : decode cX12_vat 13 = .ok (.iload_n 2, 1) := by decide +kernel
theorem dX12_vat_14 : decode cX12_vat 14 = .ok (.aload_n 0, 1) := by decide +kernel
theorem dX12_vat_15 : decode cX12_vat 15 = .ok (.getfield 129, 3) := by decide +kernel
theorem dX12_vat_18 : decode cX12_vat 18 = .ok (.invokestatic 95, 3) := by decide +kernel
theorem dX12_vat_21 : decode cX12_vat 21 = .ok (.ifCond .ne 9, 3) := by decide +kernel
theorem dX12_vat_24 : decode cX12_vat 24 = .ok (.aload_n 0, 1) := by decide +kernel
theorem dX12_vat_25 : decode cX12_vat 25 = .ok (.iconst (-1), 1) := by decide +kernel
theorem dX12_vat_26 : decode cX12_vat 26 = .ok (.invokevirtual 103, 3) := by decide +kernel
theorem dX12_vat_29 : decode cX12_vat 29 = .ok (.ireturn, 1) := by decide +kernel
theorem dX12_vat_30 : decode cX12_vat 30 = .ok (.aload_n 0, 1) := by decide +kernel
theorem dX12_vat_31 : decode cX12_vat 31 = .ok (.getfield 86, 3) := by decide +kernel
theorem dX12_vat_34 : decode cX12_vat 34 = .ok (.bipush 105, 2) := by decide +kernel
theorem dX12_vat_36 : decode cX12_vat 36 = .ok (.iconst 2, 1) := by decide +kernel
theorem dX12_vat_37 : decode cX12_vat 37 = .ok (.iload_n 1, 1) := by decide +kernel
theorem dX12_vat_38 : decode cX12_vat 38 = .ok (.imul, 1) := by decide +kernel
theorem dX12_vat_39 : decode cX12_vat 39 = .ok (.iadd, 1) := by decide +kernel
theorem dX12_vat_40 : decode cX12_vat 40 = .ok (.iaload, 1) := by decide +kernel
theorem dX12_vat_41 : decode cX12_vat 41 = .ok (.ifCond .le 7, 3) := by decide +kernel
theorem dX12_vat_44 : decode cX12_vat 44 = .ok (.iconst 1, 1) := by decide +kernel
theorem dX12_vat_45 : decode cX12_vat 45 = .ok (.goto 4, 3) := by decide +kernel
theorem dX12_vat_48 : decode cX12_vat 48 = .ok (.iconst 0, 1) := by decide +kernel
theorem dX12_vat_49 : decode cX12_vat 49 = .ok (.istore_n 3, 1) := by decide +kernel
theorem dX12_vat_50 : decode cX12_vat 50 = .ok (.iconst 0, 1) := by decide +kernel
theorem dX12_vat_51 : decode cX12_vat 51 = .ok (.istore 4, 2) := by decide +kernel
theorem dX12_vat_53 : decode cX12_vat 53 = .ok (.iload 4, 2) := by decide +kernel
theorem dX12_vat_55 : decode cX12_vat 55 = .ok (.iconst 3, 1) := by decide +kernel
theorem dX12_vat_56 : decode cX12_vat 56 = .ok (.if_icmp .ge 40, 3) := by decide +kernel
theorem dX12_vat_59 : decode cX12_vat 59 = .ok (.iload_n 3, 1) := by decide +kernel
theorem dX12_vat_60 : decode cX12_vat 60 = .ok (.ifCond .ne 24, 3) := by decide +kernel
theorem dX12_vat_63 : decode cX12_vat 63 = .ok (.iload 4, 2) := by decide +kernel
theorem dX12_vat_65 : decode cX12_vat 65 = .ok (.iload_n 1, 1) := by decide +kernel
theorem dX12_vat_66 : decode cX12_vat 66 = .ok (.if_icmp .eq 22, 3) := by decide +kernel
theorem dX12_vat_69 : decode cX12_vat 69 = .ok (.iload_n 2, 1) := by decide +kernel
theorem dX12_vat_70 : decode cX12_vat 70 = .ok (.ifCond .lt 18, 3) := by decide +kernel
theorem dX12_vat_73 : decode cX12_vat 73 = .ok (.aload_n 0, 1) := by decide +kernel
theorem dX12_vat_74 : decode cX12_vat 74 = .ok (.getfield 49, 3) := by decide +kernel
theorem dX12_vat_77 : decode cX12_vat 77 = .ok (.iload 4, 2) := by decide +kernel
theorem dX12_vat_79 : decode cX12_vat 79 = .ok (.iaload, 1) := by decide +kernel
theorem dX12_vat_80 : decode cX12_vat 80 = .ok (.iload_n 2, 1) := by decide +kernel
theorem dX12_vat_81 : decode cX12_vat 81 = .ok (.if_icmp .ne 7, 3) := by decide +kernel
theorem dX12_vat_84 : decode cX12_vat 84 = .ok (.iconst 1, 1) := by decide +kernel
theorem dX12_vat_85 : decode cX12_vat 85 = .ok (.goto 4, 3) := by decide +kernel
theorem dX12_vat_88 : decode cX12_vat 88 = .ok (.iconst 0, 1) := by decide +kernel
theorem dX12_vat_89 : decode cX12_vat 89 = .ok (.istore_n 3, 1) := by decide +kernel
theorem dX12_vat_90 : decode cX12_vat 90 = .ok (.iinc 4 1, 3) := by decide +kernel
theorem dX12_vat_93 : decode cX12_vat 93 = .ok (.goto (-40), 3) := by decide +kernel
theorem dX12_vat_96 : decode cX12_vat 96 = .ok (.iload_n 3, 1) := by decide +kernel
theorem dX12_vat_97 : decode cX12_vat 97 = .ok (.ifCond .eq 10, 3) := by decide +kernel
theorem dX12_vat_100 : decode cX12_vat 100 = .ok (.aload_n 0, 1) := by decide +kernel
theorem dX12_vat_101 : decode cX12_vat 101 = .ok (.bipush (-3), 2) := by decide +kernel
theorem dX12_vat_103 : decode cX12_vat 103 = .ok (.invokevirtual 103, 3) := by decide +kernel
theorem dX12_vat_106 : decode cX12_vat 106 = .ok (.ireturn, 1) := by decide +kernel
theorem dX12_vat_107 : decode cX12_vat 107 = .ok (.aload_n 0, 1) := by decide +kernel
theorem dX12_vat_108 : decode cX12_vat 108 = .ok (.getfield 49, 3) := by decide +kernel
theorem dX12_vat_111 : decode cX12_vat 111 = .ok (.iload_n 1, 1) := by decide +kernel
theorem dX12_vat_112 : decode cX12_vat 112 = .ok (.iload_n 2, 1) := by decide +kernel
theorem dX12_vat_113 : decode cX12_vat 113 = .ok (.iastore, 1) := by decide +kernel
theorem dX12_vat_114 : decode cX12_vat 114 = .ok (.iconst 1, 1) := by decide +kernel
theorem dX12_vat_115 : decode cX12_vat 115 = .ok (.ireturn, 1) := by decide +kernel
theorem dX12_furnish_0 : decode cX12_furnish 0 = .ok (.iload_n 1, 1) := by decide +kernel
theorem dX12_furnish_1 : decode cX12_furnish 1 = .ok (.iconst 3, 1) := by decide +kernel
theorem dX12_furnish_2 : decode cX12_furnish 2 = .ok (.invokestatic 95, 3) := by decide +kernel
theorem dX12_furnish_5 : decode cX12_furnish 5 = .ok (.ifCond .eq 11, 3) := by decide +kernel
theorem dX12_furnish_8 : decode cX12_furnish 8 = .ok (.aload_n 0, 1) := by decide +kernel
theorem dX12_furnish_9 : decode cX12_furnish 9 = .ok (.iload_n 2, 1) := by decide +kernel
theorem dX12_furnish_10 : decode cX12_furnish 10 = .ok (.invokevirtual 111, 3) := by decide +kernel
theorem dX12_furnish_13 : decode cX12_furnish 13 = .ok (.ifCond .ne 9, 3) := by decide +kernel
theorem dX12_furnish_16 : decode cX12_furnish 16 = .ok (.aload_n 0, 1) := by decide +kernel
theorem dX12_furnish_17 : decode cX12_furnish 17 = .ok (.iconst (-1), 1) := by decide +kernel
theorem dX12_furnish_18 : decode cX12_furnish 18 = .ok (.invokevirtual 103, 3) := by decide +kernel
theorem dX12_furnish_21 : decode cX12_furnish 21 = .ok (.ireturn, 1) := by decide +kernel
theorem dX12_furnish_22 : decode cX12_furnish 22 = .ok (.aload_n 0, 1) := by decide +kernel
theorem dX12_furnish_23 : decode cX12_furnish 23 = .ok (.getfield 52, 3) := by decide +kernel
theorem dX12_furnish_26 : decode cX12_furnish 26 = .ok (.iload_n 1, 1) := by decide +kernel
theorem dX12_furnish_27 : decode cX12_furnish 27 = .ok (.iaload, 1) := by decide +kernel
theorem dX12_furnish_28 : decode cX12_furnish 28 = .ok (.istore_n 3, 1) := by decide +kernel
theorem dX12_furnish_29 : decode cX12_furnish 29 = .ok (.aload_n 0, 1) := by decide +kernel
theorem dX12_furnish_30 : decode cX12_furnish 30 = .ok (.getfield 52, 3) := by decide +kernel
theorem dX12_furnish_33 : decode cX12_furnish 33 = .ok (.iload_n 1, 1) := by decide +kernel
theorem dX12_furnish_34 : decode cX12_furnish 34 = .ok (.iload_n 2, 1) := by decide +kernel
theorem dX12_furnish_35 : decode cX12_furnish 35 = .ok (.iastore, 1) := by decide +kernel
theorem dX12_furnish_36 : decode cX12_furnish 36 = .ok (.iload_n 3, 1) := by decide +kernel
theorem dX12_furnish_37 : decode cX12_furnish 37 = .ok (.ireturn, 1) := by decide +kernel
theorem dX12_loft_0 : decode cX12_loft 0 = .ok (.iload_n 1, 1) := by decide +kernel
theorem dX12_loft_1 : decode cX12_loft 1 = .ok (.iconst 0, 1) := by decide +kernel
theorem dX12_loft_2 : decode cX12_loft 2 = .ok (.bipush 40, 2) := by decide +kernel
theorem dX12_loft_4 : decode cX12_loft 4 = .ok (.invokestatic 99, 3) := by decide +kernel
theorem dX12_loft_7 : decode cX12_loft 7 = .ok (.istore_n 2, 1) := by decide +kernel
theorem dX12_loft_8 : decode cX12_loft 8 = .ok (.iload_n 2, 1) := by decide +kernel
theorem dX12_loft_9 : decode cX12_loft 9 = .ok (.ifCond .eq 9, 3) := by decide +kernel
theorem dX12_loft_12 : decode cX12_loft 12 = .ok (.aload_n 0, 1) := by decide +kernel
theorem dX12_loft_13 : decode cX12_loft 13 = .ok (.iload_n 2, 1) := by decide +kernel
theorem dX12_loft_14 : decode cX12_loft 14 = .ok (.invokevirtual 103, 3) := by decide +kernel
theorem dX12_loft_17 : decode cX12_loft 17 = .ok (.ireturn, 1) := by decide +kernel
theorem dX12_loft_18 : decode cX12_loft 18 = .ok (.aload_n 0, 1) := by decide +kernel
theorem dX12_loft_19 : decode cX12_loft 19 = .ok (.getfield 55, 3) := by decide +kernel
theorem dX12_loft_22 : decode cX12_loft 22 = .ok (.istore_n 3, 1) := by decide +kernel
theorem dX12_loft_23 : decode cX12_loft 23 = .ok (.aload_n 0, 1) := by decide +kernel
theorem dX12_loft_24 : decode cX12_loft 24 = .ok (.iload_n 1, 1) := by decide +kernel
theorem dX12_loft_25 : decode cX12_loft 25 = .ok (.putfield 55, 3) := by decide +kernel
theorem dX12_loft_28 : decode cX12_loft 28 = .ok (.iload_n 3, 1) := by decide +kernel
theorem dX12_loft_29 : decode cX12_loft 29 = .ok (.ireturn, 1) := by decide +kernel
theorem dX12_hides_0 : decode cX12_hides 0 = .ok (.iload_n 1, 1) := by decide +kernel
theorem dX12_hides_1 : decode cX12_hides 1 = .ok (.iconst 1, 1) := by decide +kernel
theorem dX12_hides_2 : decode cX12_hides 2 = .ok (.sipush 1000, 3) := by decide +kernel
theorem dX12_hides_5 : decode cX12_hides 5 = .ok (.aload_n 0, 1) := by decide +kernel
theorem dX12_hides_6 : decode cX12_hides 6 = .ok (.getfield 135, 3) := by decide +kernel
theorem dX12_hides_9 : decode cX12_hides 9 = .ok (.isub, 1) := by decide +kernel
theorem dX12_hides_10 : decode cX12_hides 10 = .ok (.invokestatic 99, 3) := by decide +kernel
theorem dX12_hides_13 : decode cX12_hides 13 = .ok (.istore_n 2, 1) := by decide +kernel
theorem dX12_hides_14 : decode cX12_hides 14 = .ok (.iload_n 2, 1) := by decide +kernel
theorem dX12_hides_15 : decode cX12_hides 15 = .ok (.ifCond .eq 9, 3) := by decide +kernel
theorem dX12_hides_18 : decode cX12_hides 18 = .ok (.aload_n 0, 1) := by decide +kernel
theorem dX12_hides_19 : decode cX12_hides 19 = .ok (.iload_n 2, 1) := by decide +kernel
theorem dX12_hides_20 : decode cX12_hides 20 = .ok (.invokevirtual 103, 3) := by decide +kernel
theorem dX12_hides_23 : decode cX12_hides 23 = .ok (.ireturn, 1) := by decide +kernel
theorem dX12_hides_24 : decode cX12_hides 24 = .ok (.aload_n 0, 1) := by decide +kernel
theorem dX12_hides_25 : decode cX12_hides 25 = .ok (.dup, 1) := by decide +kernel
theorem dX12_hides_26 : decode cX12_hides 26 = .ok (.getfield 135, 3) := by decide +kernel
theorem dX12_hides_29 : decode cX12_hides 29 = .ok (.iload_n 1, 1) := by decide +kernel
theorem dX12_hides_30 : decode cX12_hides 30 = .ok (.iadd, 1) := by decide +kernel
theorem dX12_hides_31 : decode cX12_hides 31 = .ok (.putfield 135, 3) := by decide +kernel
theorem dX12_hides_34 : decode cX12_hides 34 = .ok (.aload_n 0, 1) := by decide +kernel
theorem dX12_hides_35 : decode cX12_hides 35 = .ok (.getfield 135, 3) := by decide +kernel
theorem dX12_hides_38 : decode cX12_hides 38 = .ok (.ireturn, 1) := by decide +kernel
theorem dX12_post_0 : decode cX12_post 0 = .ok (.aload_n 0, 1) := by decide +kernel
theorem dX12_post_1 : decode cX12_post 1 = .ok (.getfield 86, 3) := by decide +kernel
theorem dX12_post_4 : decode cX12_post 4 = .ok (.bipush 111, 2) := by decide +kernel
theorem dX12_post_6 : decode cX12_post 6 = .ok (.bipush 8, 2) := by decide +kernel
theorem dX12_post_8 : decode cX12_post 8 = .ok (.iload_n 1, 1) := by decide +kernel
theorem dX12_post_9 : decode cX12_post 9 = .ok (.imul, 1) := by decide +kernel
theorem dX12_post_10 : decode cX12_post 10 = .ok (.iadd, 1) := by decide +kernel
theorem dX12_post_11 : decode cX12_post 11 = .ok (.iload_n 2, 1) := by decide +kernel
theorem dX12_post_12 : decode cX12_post 12 = .ok (.iadd, 1) := by decide +kernel
theorem dX12_post_13 : decode cX12_post 13 = .ok (.iaload, 1) := by decide +kernel
theorem dX12_post_14 : decode cX12_post 14 = .ok (.ireturn, 1) := by decide +kernel
theorem dX12_put_0 : decode cX12_put 0 = .ok (.aload_n 0, 1) := by decide +kernel
theorem dX12_put_1 : decode cX12_put 1 = .ok (.getfield 86, 3) := by decide +kernel
theorem dX12_put_4 : decode cX12_put 4 = .ok (.bipush 111, 2) := by decide +kernel
theorem dX12_put_6 : decode cX12_put 6 = .ok (.bipush 8, 2) := by decide +kernel
theorem dX12_put_8 : decode cX12_put 8 = .ok (.iload_n 1, 1) := by decide +kernel
theorem dX12_put_9 : decode cX12_put 9 = .ok (.imul, 1) := by decide +kernel
theorem dX12_put_10 : decode cX12_put 10 = .ok (.iadd, 1) := by decide +kernel
theorem dX12_put_11 : decode cX12_put 11 = .ok (.iload_n 2, 1) := by decide +kernel
theorem dX12_put_12 : decode cX12_put 12 = .ok (.iadd, 1) := by decide +kernel
theorem dX12_put_13 : decode cX12_put 13 = .ok (.iload_n 3, 1) := by decide +kernel
theorem dX12_put_14 : decode cX12_put 14 = .ok (.iastore, 1) := by decide +kernel
theorem dX12_put_15 : decode cX12_put 15 = .ok (.return_, 1) := by decide +kernel
theorem dX12_sizes_0 : decode cX12_sizes 0 = .ok (.aload_n 0, 1) := by decide +kernel
theorem dX12_sizes_1 : decode cX12_sizes 1 = .ok (.dup, 1) := by decide +kernel
theorem dX12_sizes_2 : decode cX12_sizes 2 = .ok (.getfield 135, 3) := by decide +kernel
theorem dX12_sizes_5 : decode cX12_sizes 5 = .ok (.iconst 1, 1) := by decide +kernel
theorem dX12_sizes_6 : decode cX12_sizes 6 = .ok (.isub, 1) := by decide +kernel
theorem dX12_sizes_7 : decode cX12_sizes 7 = .ok (.putfield 135, 3) := by decide +kernel
theorem dX12_sizes_10 : decode cX12_sizes 10 = .ok (.aload_n 0, 1) := by decide +kernel
theorem dX12_sizes_11 : decode cX12_sizes 11 = .ok (.iload_n 1, 1) := by decide +kernel
theorem dX12_sizes_12 : decode cX12_sizes 12 = .ok (.iconst 4, 1) := by decide +kernel
theorem dX12_sizes_13 : decode cX12_sizes 13 = .ok (.invokevirtual 138, 3) := by decide +kernel
theorem dX12_sizes_16 : decode cX12_sizes 16 = .ok (.aload_n 0, 1) := by decide +kernel
theorem dX12_sizes_17 : decode cX12_sizes 17 = .ok (.iload_n 1, 1) := by decide +kernel
theorem dX12_sizes_18 : decode cX12_sizes 18 = .ok (.iconst 3, 1) := by decide +kernel
theorem dX12_sizes_19 : decode cX12_sizes 19 = .ok (.invokevirtual 138, 3) := by decide +kernel
theorem dX12_sizes_22 : decode cX12_sizes 22 = .ok (.isub, 1) := by decide +kernel
theorem dX12_sizes_23 : decode cX12_sizes 23 = .ok (.bipush 24, 2) := by decide +kernel
theorem dX12_sizes_25 : decode cX12_sizes 25 = .ok (.idiv, 1) := by decide +kernel
theorem dX12_sizes_26 : decode cX12_sizes 26 = .ok (.istore_n 2, 1) := by decide +kernel
theorem dX12_sizes_27 : decode cX12_sizes 27 = .ok (.iconst 0, 1) := by decide +kernel
theorem dX12_sizes_28 : decode cX12_sizes 28 = .ok (.bipush 58, 2) := by decide +kernel
theorem dX12_sizes_30 : decode cX12_sizes 30 = .ok (.iload_n 2, 1) := by decide +kernel
theorem dX12_sizes_31 : decode cX12_sizes 31 = .ok (.isub, 1) := by decide +kernel
theorem dX12_sizes_32 : decode cX12_sizes 32 = .ok (.invokestatic 141, 3) := by decide +kernel
theorem dX12_sizes_35 : decode cX12_sizes 35 = .ok (.istore_n 3, 1) := by decide +kernel
theorem dX12_sizes_36 : decode cX12_sizes 36 = .ok (.aload_n 0, 1) := by decide +kernel
theorem dX12_sizes_37 : decode cX12_sizes 37 = .ok (.iload_n 1, 1) := by decide +kernel
theorem dX12_sizes_38 : decode cX12_sizes 38 = .ok (.iconst 0, 1) := by decide +kernel
theorem dX12_sizes_39 : decode cX12_sizes 39 = .ok (.iconst 3, 1) := by decide +kernel
theorem dX12_sizes_40 : decode cX12_sizes 40 = .ok (.invokevirtual 144, 3) := by decide +kernel
theorem dX12_sizes_43 : decode cX12_sizes 43 = .ok (.aload_n 0, 1) := by decide +kernel
theorem dX12_sizes_44 : decode cX12_sizes 44 = .ok (.iload_n 1, 1) := by decide +kernel
theorem dX12_sizes_45 : decode cX12_sizes 45 = .ok (.bipush 7, 2) := by decide +kernel
theorem dX12_sizes_47 : decode cX12_sizes 47 = .ok (.iload_n 3, 1) := by decide +kernel
theorem dX12_sizes_48 : decode cX12_sizes 48 = .ok (.invokevirtual 144, 3) := by decide +kernel
theorem dX12_sizes_51 : decode cX12_sizes 51 = .ok (.aload_n 0, 1) := by decide +kernel
theorem dX12_sizes_52 : decode cX12_sizes 52 = .ok (.getfield 31, 3) := by decide +kernel
theorem dX12_sizes_55 : decode cX12_sizes 55 = .ok (.bipush 9, 2) := by decide +kernel
theorem dX12_sizes_57 : decode cX12_sizes 57 = .ok (.aload_n 0, 1) := by decide +kernel
theorem dX12_sizes_58 : decode cX12_sizes 58 = .ok (.iload_n 1, 1) := by decide +kernel
theorem dX12_sizes_59 : decode cX12_sizes 59 = .ok (.iconst 2, 1) := by decide +kernel
theorem dX12_sizes_60 : decode cX12_sizes 60 = .ok (.invokevirtual 138, 3) := by decide +kernel
theorem dX12_sizes_63 : decode cX12_sizes 63 = .ok (.imul, 1) := by decide +kernel
theorem dX12_sizes_64 : decode cX12_sizes 64 = .ok (.aload_n 0, 1) := by decide +kernel
theorem dX12_sizes_65 : decode cX12_sizes 65 = .ok (.getfield 40, 3) := by decide +kernel
theorem dX12_sizes_68 : decode cX12_sizes 68 = .ok (.aload_n 0, 1) := by decide +kernel
theorem dX12_sizes_69 : decode cX12_sizes 69 = .ok (.iload_n 1, 1) := by decide +kernel
theorem dX12_sizes_70 : decode cX12_sizes 70 = .ok (.iconst 1, 1) := by decide +kernel
theorem dX12_sizes_71 : decode cX12_sizes 71 = .ok (.invokevirtual 138, 3) := by decide +kernel
theorem dX12_sizes_74 : decode cX12_sizes 74 = .ok (.iaload, 1) := by decide +kernel
theorem dX12_sizes_75 : decode cX12_sizes 75 = .ok (.iadd, 1) := by decide +kernel
theorem dX12_sizes_76 : decode cX12_sizes 76 = .ok (.dup2, 1) := by decide +kernel
theorem dX12_sizes_77 : decode cX12_sizes 77 = .ok (.iaload, 1) := by decide +kernel
theorem dX12_sizes_78 : decode cX12_sizes 78 = .ok (.iload_n 3, 1) := by decide +kernel
theorem dX12_sizes_79 : decode cX12_sizes 79 = .ok (.iadd, 1) := by decide +kernel
theorem dX12_sizes_80 : decode cX12_sizes 80 = .ok (.iastore, 1) := by decide +kernel
theorem dX12_sizes_81 : decode cX12_sizes 81 = .ok (.iload_n 3, 1) := by decide +kernel
theorem dX12_sizes_82 : decode cX12_sizes 82 = .ok (.ireturn, 1) := by decide +kernel
theorem dX12_size_0 : decode cX12_size 0 = .ok (.iload_n 1, 1) := by decide +kernel
theorem dX12_size_1 : decode cX12_size 1 = .ok (.aload_n 0, 1) := by decide +kernel
theorem dX12_size_2 : decode cX12_size 2 = .ok (.getfield 86, 3) := by decide +kernel
theorem dX12_size_5 : decode cX12_size 5 = .ok (.sipush 752, 3) := by decide +kernel
theorem dX12_size_8 : decode cX12_size 8 = .ok (.iaload, 1) := by decide +kernel
theorem dX12_size_9 : decode cX12_size 9 = .ok (.invokestatic 95, 3) := by decide +kernel
theorem dX12_size_12 : decode cX12_size 12 = .ok (.ifCond .ne 9, 3) := by decide +kernel
theorem dX12_size_15 : decode cX12_size 15 = .ok (.aload_n 0, 1) := by decide +kernel
theorem dX12_size_16 : decode cX12_size 16 = .ok (.iconst (-1), 1) := by decide +kernel
theorem dX12_size_17 : decode cX12_size 17 = .ok (.invokevirtual 103, 3) := by decide +kernel
theorem dX12_size_20 : decode cX12_size 20 = .ok (.ireturn, 1) := by decide +kernel
theorem dX12_size_21 : decode cX12_size 21 = .ok (.aload_n 0, 1) := by decide +kernel
theorem dX12_size_22 : decode cX12_size 22 = .ok (.iload_n 1, 1) := by decide +kernel
theorem dX12_size_23 : decode cX12_size 23 = .ok (.iconst 0, 1) := by decide +kernel
theorem dX12_size_24 : decode cX12_size 24 = .ok (.invokevirtual 138, 3) := by decide +kernel
theorem dX12_size_27 : decode cX12_size 27 = .ok (.iconst 2, 1) := by decide +kernel
theorem dX12_size_28 : decode cX12_size 28 = .ok (.if_icmp .ne 10, 3) := by decide +kernel
theorem dX12_size_31 : decode cX12_size 31 = .ok (.aload_n 0, 1) := by decide +kernel
theorem dX12_size_32 : decode cX12_size 32 = .ok (.getfield 135, 3) := by decide +kernel
theorem dX12_size_35 : decode cX12_size 35 = .ok (.ifCond .ne 12, 3) := by decide +kernel
theorem dX12_size_38 : decode cX12_size 38 = .ok (.aload_n 0, 1) := by decide +kernel
theorem dX12_size_39 : decode cX12_size 39 = .ok (.bipush (-3), 2) := by decide +kernel
theorem dX12_size_41 : decode cX12_size 41 = .ok (.invokevirtual 103, 3) := by decide +kernel
theorem dX12_size_44 : decode cX12_size 44 = .ok (.goto 8, 3) := by decide +kernel
theorem dX12_size_47 : decode cX12_size 47 = .ok (.aload_n 0, 1) := by decide +kernel
theorem dX12_size_48 : decode cX12_size 48 = .ok (.iload_n 1, 1) := by decide +kernel
theorem dX12_size_49 : decode cX12_size 49 = .ok (.invokevirtual 148, 3) := by decide +kernel
theorem dX12_size_52 : decode cX12_size 52 = .ok (.ireturn, 1) := by decide +kernel
theorem dX12_sizeAll_0 : decode cX12_sizeAll 0 = .ok (.iconst 0, 1) := by decide +kernel
theorem dX12_sizeAll_1 : decode cX12_sizeAll 1 = .ok (.istore_n 1, 1) := by decide +kernel
theorem dX12_sizeAll_2 : decode cX12_sizeAll 2 = .ok (.iconst 0, 1) := by decide +kernel
theorem dX12_sizeAll_3 : decode cX12_sizeAll 3 = .ok (.istore_n 2, 1) := by decide +kernel
theorem dX12_sizeAll_4 : decode cX12_sizeAll 4 = .ok (.iload_n 2, 1) := by decide +kernel
theorem dX12_sizeAll_5 : decode cX12_sizeAll 5 = .ok (.aload_n 0, 1) := by decide +kernel
theorem dX12_sizeAll_6 : decode cX12_sizeAll 6 = .ok (.getfield 86, 3) := by decide +kernel
theorem dX12_sizeAll_9 : decode cX12_sizeAll 9 = .ok (.sipush 752, 3) := by decide +kernel
theorem dX12_sizeAll_12 : decode cX12_sizeAll 12 = .ok (.iaload, 1) := by decide +kernel
theorem dX12_sizeAll_13 : decode cX12_sizeAll 13 = .ok (.if_icmp .ge 38, 3) := by decide +kernel
theorem dX12_sizeAll_16 : decode cX12_sizeAll 16 = .ok (.aload_n 0, 1) := by decide +kernel
theorem dX12_sizeAll_17 : decode cX12_sizeAll 17 = .ok (.getfield 135, 3) := by decide +kernel
theorem dX12_sizeAll_20 : decode cX12_sizeAll 20 = .ok (.ifCond .le 31, 3) := by decide +kernel
theorem dX12_sizeAll_23 : decode cX12_sizeAll 23 = .ok (.aload_n 0, 1) := by decide +kernel
theorem dX12_sizeAll_24 : decode cX12_sizeAll 24 = .ok (.iload_n 2, 1) := by decide +kernel
theorem dX12_sizeAll_25 : decode cX12_sizeAll 25 = .ok (.iconst 0, 1) := by decide +kernel
theorem dX12_sizeAll_26 : decode cX12_sizeAll 26 = .ok (.invokevirtual 138, 3) := by decide +kernel
theorem dX12_sizeAll_29 : decode cX12_sizeAll 29 = .ok (.iconst 2, 1) := by decide +kernel
theorem dX12_sizeAll_30 : decode cX12_sizeAll 30 = .ok (.if_icmp .eq 6, 3) := by decide +kernel
theorem dX12_sizeAll_33 : decode cX12_sizeAll 33 = .ok (.goto 12, 3) := by decide +kernel
theorem dX12_sizeAll_36 : decode cX12_sizeAll 36 = .ok (.aload_n 0, 1) := by decide +kernel
theorem dX12_sizeAll_37 : decode cX12_sizeAll 37 = .ok (.iload_n 2, 1) := by decide +kernel
theorem dX12_sizeAll_38 : decode cX12_sizeAll 38 = .ok (.invokevirtual 148, 3) := by decide +kernel
theorem dX12_sizeAll_41 : decode cX12_sizeAll 41 = .ok (.istore_n 3, 1) := by decide +kernel
theorem dX12_sizeAll_42 : decode cX12_sizeAll 42 = .ok (.iinc 1 1, 3) := by decide +kernel
theorem dX12_sizeAll_45 : decode cX12_sizeAll 45 = .ok (.iinc 2 1, 3) := by decide +kernel
theorem dX12_sizeAll_48 : decode cX12_sizeAll 48 = .ok (.goto (-44), 3) := by decide +kernel
theorem dX12_sizeAll_51 : decode cX12_sizeAll 51 = .ok (.iload_n 1, 1) := by decide +kernel
theorem dX12_sizeAll_52 : decode cX12_sizeAll 52 = .ok (.ireturn, 1) := by decide +kernel
theorem dX12_isWeight_0 : decode cX12_isWeight 0 = .ok (.iload_n 0, 1) := by decide +kernel
theorem dX12_isWeight_1 : decode cX12_isWeight 1 = .ok (.iconst 1, 1) := by decide +kernel
theorem dX12_isWeight_2 : decode cX12_isWeight 2 = .ok (.isub, 1) := by decide +kernel
theorem dX12_isWeight_3 : decode cX12_isWeight 3 = .ok (.bipush 8, 2) := by decide +kernel
theorem dX12_isWeight_5 : decode cX12_isWeight 5 = .ok (.invokestatic 95, 3) := by decide +kernel
theorem dX12_isWeight_8 : decode cX12_isWeight 8 = .ok (.ireturn, 1) := by decide +kernel
theorem dX12_duty_0 : decode cX12_duty 0 = .ok (.iload_n 1, 1) := by decide +kernel
theorem dX12_duty_1 : decode cX12_duty 1 = .ok (.invokestatic 151, 3) := by decide +kernel
theorem dX12_duty_4 : decode cX12_duty 4 = .ok (.ifCond .eq 13, 3) := by decide +kernel
theorem dX12_duty_7 : decode cX12_duty 7 = .ok (.iload_n 2, 1) := by decide +kernel
theorem dX12_duty_8 : decode cX12_duty 8 = .ok (.iconst 0, 1) := by decide +kernel
theorem dX12_duty_9 : decode cX12_duty 9 = .ok (.bipush 99, 2) := by decide +kernel
theorem dX12_duty_11 : decode cX12_duty 11 = .ok (.invokestatic 99, 3) := by decide +kernel
theorem dX12_duty_14 : decode cX12_duty 14 = .ok (.goto 4, 3) := by decide +kernel
theorem dX12_duty_17 : decode cX12_duty 17 = .ok (.iconst (-1), 1) := by decide +kernel
theorem dX12_duty_18 : decode cX12_duty 18 = .ok (.istore_n 3, 1) := by decide +kernel
theorem dX12_duty_19 : decode cX12_duty 19 = .ok (.iload_n 3, 1) := by decide +kernel
theorem dX12_duty_20 : decode cX12_duty 20 = .ok (.ifCond .eq 9, 3) := by decide +kernel
theorem dX12_duty_23 : decode cX12_duty 23 = .ok (.aload_n 0, 1) := by decide +kernel
theorem dX12_duty_24 : decode cX12_duty 24 = .ok (.iload_n 3, 1) := by decide +kernel
theorem dX12_duty_25 : decode cX12_duty 25 = .ok (.invokevirtual 103, 3) := by decide +kernel
theorem dX12_duty_28 : decode cX12_duty 28 = .ok (.ireturn, 1) := by decide +kernel
theorem dX12_duty_29 : decode cX12_duty 29 = .ok (.aload_n 0, 1) := by decide +kernel
theorem dX12_duty_30 : decode cX12_duty 30 = .ok (.getfield 28, 3) := by decide +kernel
theorem dX12_duty_33 : decode cX12_duty 33 = .ok (.iload_n 1, 1) := by decide +kernel
theorem dX12_duty_34 : decode cX12_duty 34 = .ok (.iaload, 1) := by decide +kernel
theorem dX12_duty_35 : decode cX12_duty 35 = .ok (.istore 4, 2) := by decide +kernel
theorem dX12_duty_37 : decode cX12_duty 37 = .ok (.aload_n 0, 1) := by decide +kernel
theorem dX12_duty_38 : decode cX12_duty 38 = .ok (.getfield 28, 3) := by decide +kernel
theorem dX12_duty_41 : decode cX12_duty 41 = .ok (.iload_n 1, 1) := by decide +kernel
theorem dX12_duty_42 : decode cX12_duty 42 = .ok (.iload_n 2, 1) := by decide +kernel
theorem dX12_duty_43 : decode cX12_duty 43 = .ok (.iastore, 1) := by decide +kernel
theorem dX12_duty_44 : decode cX12_duty 44 = .ok (.iload 4, 2) := by decide +kernel
theorem dX12_duty_46 : decode cX12_duty 46 = .ok (.ireturn, 1) := by decide +kernel
theorem dX12_order_0 : decode cX12_order 0 = .ok (.aload_n 0, 1) := by decide +kernel
theorem dX12_order_1 : decode cX12_order 1 = .ok (.iload_n 1, 1) := by decide +kernel
theorem dX12_order_2 : decode cX12_order 2 = .ok (.invokevirtual 111, 3) := by decide +kernel
theorem dX12_order_5 : decode cX12_order 5 = .ok (.ifCond .eq 10, 3) := by decide +kernel
theorem dX12_order_8 : decode cX12_order 8 = .ok (.iload_n 2, 1) := by decide +kernel
theorem dX12_order_9 : decode cX12_order 9 = .ok (.invokestatic 151, 3) := by decide +kernel
theorem dX12_order_12 : decode cX12_order 12 = .ok (.ifCond .ne 9, 3) := by decide +kernel
theorem dX12_order_15 : decode cX12_order 15 = .ok (.aload_n 0, 1) := by decide +kernel
theorem dX12_order_16 : decode cX12_order 16 = .ok (.iconst (-1), 1) := by decide +kernel
theorem dX12_order_17 : decode cX12_order 17 = .ok (.invokevirtual 103, 3) := by decide +kernel
theorem dX12_order_20 : decode cX12_order 20 = .ok (.ireturn, 1) := by decide +kernel
theorem dX12_order_21 : decode cX12_order 21 = .ok (.iload_n 3, 1) := by decide +kernel
theorem dX12_order_22 : decode cX12_order 22 = .ok (.iconst 1, 1) := by decide +kernel
theorem dX12_order_23 : decode cX12_order 23 = .ok (.if_icmp .lt 13, 3) := by decide +kernel
theorem dX12_order_26 : decode cX12_order 26 = .ok (.iload 4, 2) := by decide +kernel
theorem dX12_order_28 : decode cX12_order 28 = .ok (.ifCond .lt 8, 3) := by decide +kernel
theorem dX12_order_31 : decode cX12_order 31 = .ok (.iload 5, 2) := by decide +kernel
theorem dX12_order_33 : decode cX12_order 33 = .ok (.ifCond .ge 10, 3) := by decide +kernel
theorem dX12_order_36 : decode cX12_order 36 = .ok (.aload_n 0, 1) := by decide +kernel
theorem dX12_order_37 : decode cX12_order 37 = .ok (.bipush (-4), 2) := by decide +kernel
theorem dX12_order_39 : decode cX12_order 39 = .ok (.invokevirtual 103, 3) := by decide +kernel
theorem dX12_order_42 : decode cX12_order 42 = .ok (.ireturn, 1) := by decide +kernel
theorem dX12_order_43 : decode cX12_order 43 = .ok (.iload_n 3, 1) := by decide +kernel
theorem dX12_order_44 : decode cX12_order 44 = .ok (.bipush 20, 2) := by decide +kernel
theorem dX12_order_46 : decode cX12_order 46 = .ok (.if_icmp .gt 27, 3) := by decide +kernel
theorem dX12_order_49 : decode cX12_order 49 = .ok (.iload 4, 2) := by decide +kernel
theorem dX12_order_51 : decode cX12_order 51 = .ok (.bipush 100, 2) := by decide +kernel
theorem dX12_order_53 : decode cX12_order 53 = .ok (.if_icmp .gt 20, 3) := by decide +kernel
theorem dX12_order_56 : decode cX12_order 56 = .ok (.iload 5, 2) := by decide +kernel
theorem dX12_order_58 : decode cX12_order 58 = .ok (.sipush 999, 3) := by decide +kernel
theorem dX12_order_61 : decode cX12_order 61 = .ok (.if_icmp .gt 12, 3) := by decide +kernel
theorem dX12_order_64 : decode cX12_order 64 = .ok (.aload_n 0, 1) := by decide +kernel
theorem dX12_order_65 : decode cX12_order 65 = .ok (.getfield 154, 3) := by decide +kernel
theorem dX12_order_68 : decode cX12_order 68 = .ok (.bipush 12, 2) := by decide +kernel
theorem dX12_order_70 : decode cX12_order 70 = .ok (.if_icmp .ne 10, 3) := by decide +kernel
theorem dX12_order_73 : decode cX12_order 73 = .ok (.aload_n 0, 1) := by decide +kernel
theorem dX12_order_74 : decode cX12_order 74 = .ok (.bipush (-6), 2) := by decide +kernel
theorem dX12_order_76 : decode cX12_order 76 = .ok (.invokevirtual 103, 3) := by decide +kernel
theorem dX12_order_79 : decode cX12_order 79 = .ok (.ireturn, 1) := by decide +kernel
theorem dX12_order_80 : decode cX12_order 80 = .ok (.aload_n 0, 1) := by decide +kernel
theorem dX12_order_81 : decode cX12_order 81 = .ok (.getfield 59, 3) := by decide +kernel
theorem dX12_order_84 : decode cX12_order 84 = .ok (.aload_n 0, 1) := by decide +kernel
theorem dX12_order_85 : decode cX12_order 85 = .ok (.getfield 154, 3) := by decide +kernel
theorem dX12_order_88 : decode cX12_order 88 = .ok (.iload_n 1, 1) := by decide +kernel
theorem dX12_order_89 : decode cX12_order 89 = .ok (.iastore, 1) := by decide +kernel
theorem dX12_order_90 : decode cX12_order 90 = .ok (.aload_n 0, 1) := by decide +kernel
theorem dX12_order_91 : decode cX12_order 91 = .ok (.getfield 62, 3) := by decide +kernel
theorem dX12_order_94 : decode cX12_order 94 = .ok (.aload_n 0, 1) := by decide +kernel
theorem dX12_order_95 : decode cX12_order 95 = .ok (.getfield 154, 3) := by decide +kernel
theorem dX12_order_98 : decode cX12_order 98 = .ok (.iload_n 2, 1) := by decide +kernel
theorem dX12_order_99 : decode cX12_order 99 = .ok (.iastore, 1) := by decide +kernel
theorem dX12_order_100 : decode cX12_order 100 = .ok (.aload_n 0, 1) := by decide +kernel
theorem dX12_order_101 : decode cX12_order 101 = .ok (.getfield 65, 3) := by decide +kernel
theorem dX12_order_104 : decode cX12_order 104 = .ok (.aload_n 0, 1) := by decide +kernel
theorem dX12_order_105 : decode cX12_order 105 = .ok (.getfield 154, 3) := by decide +kernel
theorem dX12_order_108 : decode cX12_order 108 = .ok (.iload_n 3, 1) := by decide +kernel
theorem dX12_order_109 : decode cX12_order 109 = .ok (.iastore, 1) := by decide +kernel
theorem dX12_order_110 : decode cX12_order 110 = .ok (.aload_n 0, 1) := by decide +kernel
theorem dX12_order_111 : decode cX12_order 111 = .ok (.getfield 68, 3) := by decide +kernel
theorem dX12_order_114 : decode cX12_order 114 = .ok (.aload_n 0, 1) := by decide +kernel
theorem dX12_order_115 : decode cX12_order 115 = .ok (.getfield 154, 3) := by decide +kernel
theorem dX12_order_118 : decode cX12_order 118 = .ok (.iload 4, 2) := by decide +kernel
theorem dX12_order_120 : decode cX12_order 120 = .ok (.iastore, 1) := by decide +kernel
theorem dX12_order_121 : decode cX12_order 121 = .ok (.aload_n 0, 1) := by decide +kernel
theorem dX12_order_122 : decode cX12_order 122 = .ok (.getfield 71, 3) := by decide +kernel
theorem dX12_order_125 : decode cX12_order 125 = .ok (.aload_n 0, 1) := by decide +kernel
theorem dX12_order_126 : decode cX12_order 126 = .ok (.getfield 154, 3) := by decide +kernel
theorem dX12_order_129 : decode cX12_order 129 = .ok (.iload 5, 2) := by decide +kernel
theorem dX12_order_131 : decode cX12_order 131 = .ok (.iastore, 1) := by decide +kernel
theorem dX12_order_132 : decode cX12_order 132 = .ok (.aload_n 0, 1) := by decide +kernel
theorem dX12_order_133 : decode cX12_order 133 = .ok (.getfield 74, 3) := by decide +kernel
theorem dX12_order_136 : decode cX12_order 136 = .ok (.aload_n 0, 1) := by decide +kernel
theorem dX12_order_137 : decode cX12_order 137 = .ok (.getfield 154, 3) := by decide +kernel
theorem dX12_order_140 : decode cX12_order 140 = .ok (.bipush (-9), 2) := by decide +kernel
theorem dX12_order_142 : decode cX12_order 142 = .ok (.iastore, 1) := by decide +kernel
theorem dX12_order_143 : decode cX12_order 143 = .ok (.aload_n 0, 1) := by decide +kernel
theorem dX12_order_144 : decode cX12_order 144 = .ok (.dup, 1) := by decide +kernel
theorem dX12_order_145 : decode cX12_order 145 = .ok (.getfield 154, 3) := by decide +kernel
theorem dX12_order_148 : decode cX12_order 148 = .ok (.iconst 1, 1) := by decide +kernel
theorem dX12_order_149 : decode cX12_order 149 = .ok (.iadd, 1) := by decide +kernel
theorem dX12_order_150 : decode cX12_order 150 = .ok (.putfield 154, 3) := by decide +kernel
theorem dX12_order_153 : decode cX12_order 153 = .ok (.aload_n 0, 1) := by decide +kernel
theorem dX12_order_154 : decode cX12_order 154 = .ok (.getfield 154, 3) := by decide +kernel
theorem dX12_order_157 : decode cX12_order 157 = .ok (.iconst 1, 1) := by decide +kernel
theorem dX12_order_158 : decode cX12_order 158 = .ok (.isub, 1) := by decide +kernel
theorem dX12_order_159 : decode cX12_order 159 = .ok (.ireturn, 1) := by decide +kernel
theorem dX12_today_0 : decode cX12_today 0 = .ok (.aload_n 0, 1) := by decide +kernel
theorem dX12_today_1 : decode cX12_today 1 = .ok (.getfield 86, 3) := by decide +kernel
theorem dX12_today_4 : decode cX12_today 4 = .ok (.sipush 751, 3) := by decide +kernel
theorem dX12_today_7 : decode cX12_today 7 = .ok (.iaload, 1) := by decide +kernel
theorem dX12_today_8 : decode cX12_today 8 = .ok (.bipush 24, 2) := by decide +kernel
theorem dX12_today_10 : decode cX12_today 10 = .ok (.idiv, 1) := by decide +kernel
theorem dX12_today_11 : decode cX12_today 11 = .ok (.ireturn, 1) := by decide +kernel
theorem dX12_fill_0 : decode cX12_fill 0 = .ok (.iload_n 1, 1) := by decide +kernel
theorem dX12_fill_1 : decode cX12_fill 1 = .ok (.aload_n 0, 1) := by decide +kernel
theorem dX12_fill_2 : decode cX12_fill 2 = .ok (.getfield 154, 3) := by decide +kernel
theorem dX12_fill_5 : decode cX12_fill 5 = .ok (.invokestatic 95, 3) := by decide +kernel
theorem dX12_fill_8 : decode cX12_fill 8 = .ok (.ifCond .ne 12, 3) := by decide +kernel
theorem dX12_fill_11 : decode cX12_fill 11 = .ok (.ldc 157, 2) := by decide +kernel
theorem dX12_fill_13 : decode cX12_fill 13 = .ok (.aload_n 0, 1) := by decide +kernel
theorem dX12_fill_14 : decode cX12_fill 14 = .ok (.iconst (-1), 1) := by decide +kernel
theorem dX12_fill_15 : decode cX12_fill 15 = .ok (.invokevirtual 103, 3) := by decide +kernel
theorem dX12_fill_18 : decode cX12_fill 18 = .ok (.isub, 1) := by decide +kernel
theorem dX12_fill_19 : decode cX12_fill 19 = .ok (.ireturn, 1) := by decide +kernel
theorem dX12_fill_20 : decode cX12_fill 20 = .ok (.bipush 9, 2) := by decide +kernel
theorem dX12_fill_22 : decode cX12_fill 22 = .ok (.aload_n 0, 1) := by decide +kernel
theorem dX12_fill_23 : decode cX12_fill 23 = .ok (.getfield 59, 3) := by decide +kernel
theorem dX12_fill_26 : decode cX12_fill 26 = .ok (.iload_n 1, 1) := by decide +kernel
theorem dX12_fill_27 : decode cX12_fill 27 = .ok (.iaload, 1) := by decide +kernel
theorem dX12_fill_28 : decode cX12_fill 28 = .ok (.imul, 1) := by decide +kernel
theorem dX12_fill_29 : decode cX12_fill 29 = .ok (.aload_n 0, 1) := by decide +kernel
theorem dX12_fill_30 : decode cX12_fill 30 = .ok (.getfield 62, 3) := by decide +kernel
theorem dX12_fill_33 : decode cX12_fill 33 = .ok (.iload_n 1, 1) := by decide +kernel
theorem dX12_fill_34 : decode cX12_fill 34 = .ok (.iaload, 1) := by decide +kernel
theorem dX12_fill_35 : decode cX12_fill 35 = .ok (.iadd, 1) := by decide +kernel
theorem dX12_fill_36 : decode cX12_fill 36 = .ok (.istore_n 2, 1) := by decide +kernel
theorem dX12_fill_37 : decode cX12_fill 37 = .ok (.aload_n 0, 1) := by decide +kernel
theorem dX12_fill_38 : decode cX12_fill 38 = .ok (.getfield 74, 3) := by decide +kernel
theorem dX12_fill_41 : decode cX12_fill 41 = .ok (.iload_n 1, 1) := by decide +kernel
theorem dX12_fill_42 : decode cX12_fill 42 = .ok (.iaload, 1) := by decide +kernel
theorem dX12_fill_43 : decode cX12_fill 43 = .ok (.ifCond .ge 22, 3) := by decide +kernel
theorem dX12_fill_46 : decode cX12_fill 46 = .ok (.aload_n 0, 1) := by decide +kernel
theorem dX12_fill_47 : decode cX12_fill 47 = .ok (.getfield 31, 3) := by decide +kernel
theorem dX12_fill_50 : decode cX12_fill 50 = .ok (.iload_n 2, 1) := by decide +kernel
theorem dX12_fill_51 : decode cX12_fill 51 = .ok (.iaload, 1) := by decide +kernel
theorem dX12_fill_52 : decode cX12_fill 52 = .ok (.sipush 480, 3) := by decide +kernel
theorem dX12_fill_55 : decode cX12_fill 55 = .ok (.aload_n 0, 1) := by decide +kernel
theorem dX12_fill_56 : decode cX12_fill 56 = .ok (.getfield 65, 3) := by decide +kernel
theorem dX12_fill_59 : decode cX12_fill 59 = .ok (.iload_n 1, 1) := by decide +kernel
theorem dX12_fill_60 : decode cX12_fill 60 = .ok (.iaload, 1) := by decide +kernel
theorem dX12_fill_61 : decode cX12_fill 61 = .ok (.imul, 1) := by decide +kernel
theorem dX12_fill_62 : decode cX12_fill 62 = .ok (.if_icmp .ge 13, 3) := by decide +kernel
theorem dX12_fill_65 : decode cX12_fill 65 = .ok (.ldc 157, 2) := by decide +kernel
theorem dX12_fill_67 : decode cX12_fill 67 = .ok (.aload_n 0, 1) := by decide +kernel
theorem dX12_fill_68 : decode cX12_fill 68 = .ok (.bipush (-3), 2) := by decide +kernel
theorem dX12_fill_70 : decode cX12_fill 70 = .ok (.invokevirtual 103, 3) := by decide +kernel
theorem dX12_fill_73 : decode cX12_fill 73 = .ok (.isub, 1) := by decide +kernel
theorem dX12_fill_74 : decode cX12_fill 74 = .ok (.ireturn, 1) := by decide +kernel
theorem dX12_fill_75 : decode cX12_fill 75 = .ok (.aload_n 0, 1) := by decide +kernel
theorem dX12_fill_76 : decode cX12_fill 76 = .ok (.getfield 31, 3) := by decide +kernel
theorem dX12_fill_79 : decode cX12_fill 79 = .ok (.iload_n 2, 1) := by decide +kernel
theorem dX12_fill_80 : decode cX12_fill 80 = .ok (.dup2, 1) := by decide +kernel
theorem dX12_fill_81 : decode cX12_fill 81 = .ok (.iaload, 1) := by decide +kernel
theorem dX12_fill_82 : decode cX12_fill 82 = .ok (.sipush 480, 3) := by decide +kernel
theorem dX12_fill_85 : decode cX12_fill 85 = .ok (.aload_n 0, 1) := by decide +kernel
theorem dX12_fill_86 : decode cX12_fill 86 = .ok (.getfield 65, 3) := by decide +kernel
theorem dX12_fill_89 : decode cX12_fill 89 = .ok (.iload_n 1, 1) := by decide +kernel
theorem dX12_fill_90 : decode cX12_fill 90 = .ok (.iaload, 1) := by decide +kernel
theorem dX12_fill_91 : decode cX12_fill 91 = .ok (.imul, 1) := by decide +kernel
theorem dX12_fill_92 : decode cX12_fill 92 = .ok (.isub, 1) := by decide +kernel
theorem dX12_fill_93 : decode cX12_fill 93 = .ok (.iastore, 1) := by decide +kernel
theorem dX12_fill_94 : decode cX12_fill 94 = .ok (.aload_n 0, 1) := by decide +kernel
theorem dX12_fill_95 : decode cX12_fill 95 = .ok (.getfield 74, 3) := by decide +kernel
theorem dX12_fill_98 : decode cX12_fill 98 = .ok (.iload_n 1, 1) := by decide +kernel
theorem dX12_fill_99 : decode cX12_fill 99 = .ok (.aload_n 0, 1) := by decide +kernel
theorem dX12_fill_100 : decode cX12_fill 100 = .ok (.getfield 86, 3) := by decide +kernel
theorem dX12_fill_103 : decode cX12_fill 103 = .ok (.sipush 751, 3) := by decide +kernel
theorem dX12_fill_106 : decode cX12_fill 106 = .ok (.iaload, 1) := by decide +kernel
theorem dX12_fill_107 : decode cX12_fill 107 = .ok (.iastore, 1) := by decide +kernel
theorem dX12_fill_108 : decode cX12_fill 108 = .ok (.aload_n 0, 1) := by decide +kernel
theorem dX12_fill_109 : decode cX12_fill 109 = .ok (.getfield 65, 3) := by decide +kernel
theorem dX12_fill_112 : decode cX12_fill 112 = .ok (.iload_n 1, 1) := by decide +kernel
theorem dX12_fill_113 : decode cX12_fill 113 = .ok (.iaload, 1) := by decide +kernel
theorem dX12_fill_114 : decode cX12_fill 114 = .ok (.aload_n 0, 1) := by decide +kernel
theorem dX12_fill_115 : decode cX12_fill 115 = .ok (.invokevirtual 158, 3) := by decide +kernel
theorem dX12_fill_118 : decode cX12_fill 118 = .ok (.aload_n 0, 1) := by decide +kernel
theorem dX12_fill_119 : decode cX12_fill 119 = .ok (.getfield 68, 3) := by decide +kernel
theorem dX12_fill_122 : decode cX12_fill 122 = .ok (.iload_n 1, 1) := by decide +kernel
theorem dX12_fill_123 : decode cX12_fill 123 = .ok (.iaload, 1) := by decide +kernel
theorem dX12_fill_124 : decode cX12_fill 124 = .ok (.if_icmp .le 14, 3) := by decide +kernel
theorem dX12_fill_127 : decode cX12_fill 127 = .ok (.aload_n 0, 1) := by decide +kernel
theorem dX12_fill_128 : decode cX12_fill 128 = .ok (.getfield 71, 3) := by decide +kernel
theorem dX12_fill_131 : decode cX12_fill 131 = .ok (.iload_n 1, 1) := by decide +kernel
theorem dX12_fill_132 : decode cX12_fill 132 = .ok (.iaload, 1) := by decide +kernel
theorem dX12_fill_133 : decode cX12_fill 133 = .ok (.iconst 2, 1) := by decide +kernel
theorem dX12_fill_134 : decode cX12_fill 134 = .ok (.idiv, 1) := by decide +kernel
theorem dX12_fill_135 : decode cX12_fill 135 = .ok (.goto 9, 3) := by decide +kernel
theorem dX12_fill_138 : decode cX12_fill 138 = .ok (.aload_n 0, 1) := by decide +kernel
theorem dX12_fill_139 : decode cX12_fill 139 = .ok (.getfield 71, 3) := by decide +kernel
theorem dX12_fill_142 : decode cX12_fill 142 = .ok (.iload_n 1, 1) := by decide +kernel
theorem dX12_fill_143 : decode cX12_fill 143 = .ok (.iaload, 1) := by decide +kernel
theorem dX12_fill_144 : decode cX12_fill 144 = .ok (.aload_n 0, 1) := by decide +kernel
theorem dX12_fill_145 : decode cX12_fill 145 = .ok (.getfield 28, 3) := by decide +kernel
theorem dX12_fill_148 : decode cX12_fill 148 = .ok (.aload_n 0, 1) := by decide +kernel
theorem dX12_fill_149 : decode cX12_fill 149 = .ok (.getfield 62, 3) := by decide +kernel
theorem dX12_fill_152 : decode cX12_fill 152 = .ok (.iload_n 1, 1) := by decide +kernel
theorem dX12_fill_153 : decode cX12_fill 153 = .ok (.iaload, 1) := by decide +kernel
theorem dX12_fill_154 : decode cX12_fill 154 = .ok (.iaload, 1) := by decide +kernel
theorem dX12_fill_155 : decode cX12_fill 155 = .ok (.isub, 1) := by decide +kernel
theorem dX12_fill_156 : decode cX12_fill 156 = .ok (.imul, 1) := by decide +kernel
theorem dX12_fill_157 : decode cX12_fill 157 = .ok (.istore_n 3, 1) := by decide +kernel
theorem dX12_fill_158 : decode cX12_fill 158 = .ok (.aload_n 0, 1) := by decide +kernel
theorem dX12_fill_159 : decode cX12_fill 159 = .ok (.dup, 1) := by decide +kernel
theorem dX12_fill_160 : decode cX12_fill 160 = .ok (.getfield 162, 3) := by decide +kernel
theorem dX12_fill_163 : decode cX12_fill 163 = .ok (.iload_n 3, 1) := by decide +kernel
theorem dX12_fill_164 : decode cX12_fill 164 = .ok (.iadd, 1) := by decide +kernel
theorem dX12_fill_165 : decode cX12_fill 165 = .ok (.putfield 162, 3) := by decide +kernel
theorem dX12_fill_168 : decode cX12_fill 168 = .ok (.iload_n 3, 1) := by decide +kernel
theorem dX12_fill_169 : decode cX12_fill 169 = .ok (.ireturn, 1) := by decide +kernel
theorem dX12_bests_0 : decode cX12_bests 0 = .ok (.iconst 0, 1) := by decide +kernel
theorem dX12_bests_1 : decode cX12_bests 1 = .ok (.istore_n 2, 1) := by decide +kernel
theorem dX12_bests_2 : decode cX12_bests 2 = .ok (.iconst 0, 1) := by decide +kernel
theorem dX12_bests_3 : decode cX12_bests 3 = .ok (.istore_n 3, 1) := by decide +kernel
theorem dX12_bests_4 : decode cX12_bests 4 = .ok (.iload_n 3, 1) := by decide +kernel
theorem dX12_bests_5 : decode cX12_bests 5 = .ok (.aload_n 0, 1) := by decide +kernel
theorem dX12_bests_6 : decode cX12_bests 6 = .ok (.getfield 154, 3) := by decide +kernel
theorem dX12_bests_9 : decode cX12_bests 9 = .ok (.if_icmp .ge 85, 3) := by decide +kernel
theorem dX12_bests_12 : decode cX12_bests 12 = .ok (.aload_n 0, 1) := by decide +kernel
theorem dX12_bests_13 : decode cX12_bests 13 = .ok (.getfield 74, 3) := by decide +kernel
theorem dX12_bests_16 : decode cX12_bests 16 = .ok (.iload_n 3, 1) := by decide +kernel
theorem dX12_bests_17 : decode cX12_bests 17 = .ok (.iaload, 1) := by decide +kernel
theorem dX12_bests_18 : decode cX12_bests 18 = .ok (.ifCond .lt 6, 3) := by decide +kernel
theorem dX12_bests_21 : decode cX12_bests 21 = .ok (.goto 67, 3) := by decide +kernel
theorem dX12_bests_24 : decode cX12_bests 24 = .ok (.iload_n 2, 1) := by decide +kernel
theorem dX12_bests_25 : decode cX12_bests 25 = .ok (.istore 4, 2) := by decide +kernel
theorem dX12_bests_27 : decode cX12_bests 27 = .ok (.iload 4, 2) := by decide +kernel
theorem dX12_bests_29 : decode cX12_bests 29 = .ok (.ifCond .le 48, 3) := by decide +kernel
theorem dX12_bests_32 : decode cX12_bests 32 = .ok (.aload_n 0, 1) := by decide +kernel
theorem dX12_bests_33 : decode cX12_bests 33 = .ok (.getfield 68, 3) := by decide +kernel
theorem dX12_bests_36 : decode cX12_bests 36 = .ok (.aload_n 0, 1) := by decide +kernel
theorem dX12_bests_37 : decode cX12_bests 37 = .ok (.getfield 92, 3) := by decide +kernel
theorem dX12_bests_40 : decode cX12_bests 40 = .ok (.iload 4, 2) := by decide +kernel
theorem dX12_bests_42 : decode cX12_bests 42 = .ok (.iconst 1, 1) := by decide +kernel
theorem dX12_bests_43 : decode cX12_bests 43 = .ok (.isub, 1) := by decide +kernel
theorem dX12_bests_44 : decode cX12_bests 44 = .ok (.iaload, 1) := by decide +kernel
theorem dX12_bests_45 : decode cX12_bests 45 = .ok (.iaload, 1) := by decide +kernel
theorem dX12_bests_46 : decode cX12_bests 46 = .ok (.aload_n 0, 1) := by decide +kernel
theorem dX12_bests_47 : decode cX12_bests 47 = .ok (.getfield 68, 3) := by decide +kernel
theorem dX12_bests_50 : decode cX12_bests 50 = .ok (.iload_n 3, 1) := by decide +kernel
theorem dX12_bests_51 : decode cX12_bests 51 = .ok (.iaload, 1) := by decide +kernel
theorem dX12_bests_52 : decode cX12_bests 52 = .ok (.if_icmp .le 25, 3) := by decide +kernel
theorem dX12_bests_55 : decode cX12_bests 55 = .ok (.aload_n 0, 1) := by decide +kernel
theorem dX12_bests_56 : decode cX12_bests 56 = .ok (.getfield 92, 3) := by decide +kernel
theorem dX12_bests_59 : decode cX12_bests 59 = .ok (.iload 4, 2) := by decide +kernel
theorem dX12_bests_61 : decode cX12_bests 61 = .ok (.aload_n 0, 1) := by decide +kernel
theorem dX12_bests_62 : decode cX12_bests 62 = .ok (.getfield 92, 3) := by decide +kernel
theorem dX12_bests_65 : decode cX12_bests 65 = .ok (.iload 4, 2) := by decide +kernel
theorem dX12_bests_67 : decode cX12_bests 67 = .ok (.iconst 1, 1) := by decide +kernel
theorem dX12_bests_68 : decode cX12_bests 68 = .ok (.isub, 1) := by decide +kernel
theorem dX12_bests_69 : decode cX12_bests 69 = .ok (.iaload, 1) := by decide +kernel
theorem dX12_bests_70 : decode cX12_bests 70 = .ok (.iastore, 1) := by decide +kernel
theorem dX12_bests_71 : decode cX12_bests 71 = .ok (.iinc 4 (-1), 3) := by decide +kernel
theorem dX12_bests_74 : decode cX12_bests 74 = .ok (.goto (-47), 3) := by decide +kernel
theorem dX12_bests_77 : decode cX12_bests 77 = .ok (.aload_n 0, 1) := by decide +kernel
theorem dX12_bests_78 : decode cX12_bests 78 = .ok (.getfield 92, 3) := by decide +kernel
theorem dX12_bests_81 : decode cX12_bests 81 = .ok (.iload 4, 2) := by decide +kernel
theorem dX12_bests_83 : decode cX12_bests 83 = .ok (.iload_n 3, 1) := by decide +kernel
theorem dX12_bests_84 : decode cX12_bests 84 = .ok (.iastore, 1) := by decide +kernel
theorem dX12_bests_85 : decode cX12_bests 85 = .ok (.iinc 2 1, 3) := by decide +kernel
theorem dX12_bests_88 : decode cX12_bests 88 = .ok (.iinc 3 1, 3) := by decide +kernel
theorem dX12_bests_91 : decode cX12_bests 91 = .ok (.goto (-87), 3) := by decide +kernel
theorem dX12_bests_94 : decode cX12_bests 94 = .ok (.iload_n 2, 1) := by decide +kernel
theorem dX12_bests_95 : decode cX12_bests 95 = .ok (.bipush 8, 2) := by decide +kernel
theorem dX12_bests_97 : decode cX12_bests 97 = .ok (.if_icmp .le 6, 3) := by decide +kernel
theorem dX12_bests_100 : decode cX12_bests 100 = .ok (.bipush (-3), 2) := by decide +kernel
theorem dX12_bests_102 : decode cX12_bests 102 = .ok (.ireturn, 1) := by decide +kernel
theorem dX12_bests_103 : decode cX12_bests 103 = .ok (.iload_n 1, 1) := by decide +kernel
theorem dX12_bests_104 : decode cX12_bests 104 = .ok (.iconst 1, 1) := by decide +kernel
theorem dX12_bests_105 : decode cX12_bests 105 = .ok (.sipush 9600, 3) := by decide +kernel
theorem dX12_bests_108 : decode cX12_bests 108 = .ok (.invokestatic 99, 3) := by decide +kernel
theorem dX12_bests_111 : decode cX12_bests 111 = .ok (.istore_n 3, 1) := by decide +kernel
theorem dX12_bests_112 : decode cX12_bests 112 = .ok (.iload_n 3, 1) := by decide +kernel
theorem dX12_bests_113 : decode cX12_bests 113 = .ok (.ifCond .eq 5, 3) := by decide +kernel
theorem dX12_bests_116 : decode cX12_bests 116 = .ok (.iload_n 3, 1) := by decide +kernel
theorem dX12_bests_117 : decode cX12_bests 117 = .ok (.ireturn, 1) := by decide +kernel
theorem dX12_bests_118 : decode cX12_bests 118 = .ok (.aload_n 0, 1) := by decide +kernel
theorem dX12_bests_119 : decode cX12_bests 119 = .ok (.iconst 0, 1) := by decide +kernel
theorem dX12_bests_120 : decode cX12_bests 120 = .ok (.putfield 165, 3) := by decide +kernel
theorem dX12_bests_123 : decode cX12_bests 123 = .ok (.aload_n 0, 1) := by decide +kernel
theorem dX12_bests_124 : decode cX12_bests 124 = .ok (.iconst 0, 1) := by decide +kernel
theorem dX12_bests_125 : decode cX12_bests 125 = .ok (.putfield 168, 3) := by decide +kernel
theorem dX12_bests_128 : decode cX12_bests 128 = .ok (.iconst 0, 1) := by decide +kernel
theorem dX12_bests_129 : decode cX12_bests 129 = .ok (.istore 4, 2) := by decide +kernel
theorem dX12_bests_131 : decode cX12_bests 131 = .ok (.iconst 1, 1) := by decide +kernel
theorem dX12_bests_132 : decode cX12_bests 132 = .ok (.istore 5, 2) := by decide +kernel
theorem dX12_bests_134 : decode cX12_bests 134 = .ok (.iload 5, 2) := by decide +kernel
theorem dX12_bests_136 : decode cX12_bests 136 = .ok (.iconst 1, 1) := by decide +kernel
theorem dX12_bests_137 : decode cX12_bests 137 = .ok (.iload_n 2, 1) := by decide +kernel
theorem dX12_bests_138 : decode cX12_bests 138 = .ok (.ishl, 1) := by decide +kernel
theorem dX12_bests_139 : decode cX12_bests 139 = .ok (.if_icmp .ge 209, 3) := by decide +kernel
theorem dX12_bests_142 : decode cX12_bests 142 = .ok (.iconst 0, 1) := by decide +kernel
theorem dX12_bests_143 : decode cX12_bests 143 = .ok (.istore 6, 2) := by decide +kernel
theorem dX12_bests_145 : decode cX12_bests 145 = .ok (.iconst 0, 1) := by decide +kernel
theorem dX12_bests_146 : decode cX12_bests 146 = .ok (.istore 7, 2) := by decide +kernel
theorem dX12_bests_148 : decode cX12_bests 148 = .ok (.iconst 0, 1) := by decide +kernel
theorem dX12_bests_149 : decode cX12_bests 149 = .ok (.istore 8, 2) := by decide +kernel
theorem dX12_bests_151 : decode cX12_bests 151 = .ok (.lconst 0, 1) := by decide +kernel
theorem dX12_bests_152 : decode cX12_bests 152 = .ok (.lstore 9, 2) := by decide +kernel
theorem dX12_bests_154 : decode cX12_bests 154 = .ok (.iconst 1, 1) := by decide +kernel
theorem dX12_bests_155 : decode cX12_bests 155 = .ok (.istore 11, 2) := by decide +kernel
theorem dX12_bests_157 : decode cX12_bests 157 = .ok (.iconst 0, 1) := by decide +kernel
theorem dX12_bests_158 : decode cX12_bests 158 = .ok (.istore 12, 2) := by decide +kernel
theorem dX12_bests_160 : decode cX12_bests 160 = .ok (.iload 12, 2) := by decide +kernel
theorem dX12_bests_162 : decode cX12_bests 162 = .ok (.iload_n 2, 1) := by decide +kernel
theorem dX12_bests_163 : decode cX12_bests 163 = .ok (.if_icmp .ge 114, 3) := by decide +kernel
theorem dX12_bests_166 : decode cX12_bests 166 = .ok (.iload 5, 2) := by decide +kernel
theorem dX12_bests_168 : decode cX12_bests 168 = .ok (.iload 12, 2) := by decide +kernel
theorem dX12_bests_170 : decode cX12_bests 170 = .ok (.ishr, 1) := by decide +kernel
theorem dX12_bests_171 : decode cX12_bests 171 = .ok (.iconst 1, 1) := by decide +kernel
theorem dX12_bests_172 : decode cX12_bests 172 = .ok (.iand, 1) := by decide +kernel
theorem dX12_bests_173 : decode cX12_bests 173 = .ok (.ifCond .ne 6, 3) := by decide +kernel
theorem dX12_bests_176 : decode cX12_bests 176 = .ok (.goto 95, 3) := by decide +kernel
theorem dX12_bests_179 : decode cX12_bests 179 = .ok (.aload_n 0, 1) := by decide +kernel
theorem dX12_bests_180 : decode cX12_bests 180 = .ok (.getfield 92, 3) := by decide +kernel
theorem dX12_bests_183 : decode cX12_bests 183 = .ok (.iload 12, 2) := by decide +kernel
theorem dX12_bests_185 : decode cX12_bests 185 = .ok (.iaload, 1) := by decide +kernel
theorem dX12_bests_186 : decode cX12_bests 186 = .ok (.istore 13, 2) := by decide +kernel
end
section
theorem dX12_bests_188 : decode cX12_bests 188 = .ok (.lload 9, 2) := by decide +kernel
theorem dX12_bests_190 : decode cX12_bests 190 = .ok (.ldc2_w 171, 3) := by decide +kernel
theorem dX12_bests_193 : decode cX12_bests 193 = .ok (.aload_n 0, 1) := by decide +kernel
theorem dX12_bests_194 : decode cX12_bests 194 = .ok (.getfield 65, 3) := by decide +kernel
theorem dX12_bests_197 : decode cX12_bests 197 = .ok (.iload 13, 2) := by decide +kernel
theorem dX12_bests_199 : decode cX12_bests 199 = .ok (.iaload, 1) := by decide +kernel
theorem dX12_bests_200 : decode cX12_bests 200 = .ok (.i2l, 1) := by decide +kernel
theorem dX12_bests_201 : decode cX12_bests 201 = .ok (.lmul, 1) := by decide +kernel
theorem dX12_bests_202 : decode cX12_bests 202 = .ok (.ladd, 1) := by decide +kernel
theorem dX12_bests_203 : decode cX12_bests 203 = .ok (.lstore 9, 2) := by decide +kernel
theorem dX12_bests_205 : decode cX12_bests 205 = .ok (.iload 11, 2) := by decide +kernel
theorem dX12_bests_207 : decode cX12_bests 207 = .ok (.ifCond .eq 29, 3) := by decide +kernel
theorem dX12_bests_210 : decode cX12_bests 210 = .ok (.lload 9, 2) := by decide +kernel
theorem dX12_bests_212 : decode cX12_bests 212 = .ok (.iload_n 1, 1) := by decide +kernel
theorem dX12_bests_213 : decode cX12_bests 213 = .ok (.i2l, 1) := by decide +kernel
theorem dX12_bests_214 : decode cX12_bests 214 = .ok (.aload_n 0, 1) := by decide +kernel
theorem dX12_bests_215 : decode cX12_bests 215 = .ok (.getfield 68, 3) := by decide +kernel
theorem dX12_bests_218 : decode cX12_bests 218 = .ok (.iload 13, 2) := by decide +kernel
theorem dX12_bests_220 : decode cX12_bests 220 = .ok (.iaload, 1) := by decide +kernel
theorem dX12_bests_221 : decode cX12_bests 221 = .ok (.aload_n 0, 1) := by decide +kernel
theorem dX12_bests_222 : decode cX12_bests 222 = .ok (.invokevirtual 158, 3) := by decide +kernel
theorem dX12_bests_225 : decode cX12_bests 225 = .ok (.isub, 1) := by decide +kernel
theorem dX12_bests_226 : decode cX12_bests 226 = .ok (.i2l, 1) := by decide +kernel
theorem dX12_bests_227 : decode cX12_bests 227 = .ok (.lmul, 1) := by decide +kernel
theorem dX12_bests_228 : decode cX12_bests 228 = .ok (.lcmp, 1) := by decide +kernel
theorem dX12_bests_229 : decode cX12_bests 229 = .ok (.ifCond .gt 7, 3) := by decide +kernel
theorem dX12_bests_232 : decode cX12_bests 232 = .ok (.iconst 1, 1) := by decide +kernel
theorem dX12_bests_233 : decode cX12_bests 233 = .ok (.goto 4, 3) := by decide +kernel
theorem dX12_bests_236 : decode cX12_bests 236 = .ok (.iconst 0, 1) := by decide +kernel
theorem dX12_bests_237 : decode cX12_bests 237 = .ok (.istore 11, 2) := by decide +kernel
theorem dX12_bests_239 : decode cX12_bests 239 = .ok (.iload 6, 2) := by decide +kernel
theorem dX12_bests_241 : decode cX12_bests 241 = .ok (.aload_n 0, 1) := by decide +kernel
theorem dX12_bests_242 : decode cX12_bests 242 = .ok (.getfield 71, 3) := by decide +kernel
theorem dX12_bests_245 : decode cX12_bests 245 = .ok (.iload 13, 2) := by decide +kernel
theorem dX12_bests_247 : decode cX12_bests 247 = .ok (.iaload, 1) := by decide +kernel
theorem dX12_bests_248 : decode cX12_bests 248 = .ok (.aload_n 0, 1) := by decide +kernel
theorem dX12_bests_249 : decode cX12_bests 249 = .ok (.getfield 65, 3) := by decide +kernel
theorem dX12_bests_252 : decode cX12_bests 252 = .ok (.iload 13, 2) := by decide +kernel
theorem dX12_bests_254 : decode cX12_bests 254 = .ok (.iaload, 1) := by decide +kernel
theorem dX12_bests_255 : decode cX12_bests 255 = .ok (.imul, 1) := by decide +kernel
theorem dX12_bests_256 : decode cX12_bests 256 = .ok (.iadd, 1) := by decide +kernel
theorem dX12_bests_257 : decode cX12_bests 257 = .ok (.istore 6, 2) := by decide +kernel
theorem dX12_bests_259 : decode cX12_bests 259 = .ok (.iload 7, 2) := by decide +kernel
theorem dX12_bests_261 : decode cX12_bests 261 = .ok (.iconst 1, 1) := by decide +kernel
theorem dX12_bests_262 : decode cX12_bests 262 = .ok (.iload 13, 2) := by decide +kernel
theorem dX12_bests_264 : decode cX12_bests 264 = .ok (.ishl, 1) := by decide +kernel
theorem dX12_bests_265 : decode cX12_bests 265 = .ok (.ior, 1) := by decide +kernel
theorem dX12_bests_266 : decode cX12_bests 266 = .ok (.istore 7, 2) := by decide +kernel
theorem dX12_bests_268 : decode cX12_bests 268 = .ok (.iinc 8 1, 3) := by decide +kernel
theorem dX12_bests_271 : decode cX12_bests 271 = .ok (.iinc 12 1, 3) := by decide +kernel
theorem dX12_bests_274 : decode cX12_bests 274 = .ok (.goto (-114), 3) := by decide +kernel
theorem dX12_bests_277 : decode cX12_bests 277 = .ok (.iload 11, 2) := by decide +kernel
theorem dX12_bests_279 : decode cX12_bests 279 = .ok (.ifCond .eq 63, 3) := by decide +kernel
theorem dX12_bests_282 : decode cX12_bests 282 = .ok (.iload 6, 2) := by decide +kernel
theorem dX12_bests_284 : decode cX12_bests 284 = .ok (.aload_n 0, 1) := by decide +kernel
theorem dX12_bests_285 : decode cX12_bests 285 = .ok (.getfield 168, 3) := by decide +kernel
theorem dX12_bests_288 : decode cX12_bests 288 = .ok (.if_icmp .lt 54, 3) := by decide +kernel
theorem dX12_bests_291 : decode cX12_bests 291 = .ok (.iload 6, 2) := by decide +kernel
theorem dX12_bests_293 : decode cX12_bests 293 = .ok (.aload_n 0, 1) := by decide +kernel
theorem dX12_bests_294 : decode cX12_bests 294 = .ok (.getfield 168, 3) := by decide +kernel
theorem dX12_bests_297 : decode cX12_bests 297 = .ok (.if_icmp .ne 29, 3) := by decide +kernel
theorem dX12_bests_300 : decode cX12_bests 300 = .ok (.iload 8, 2) := by decide +kernel
theorem dX12_bests_302 : decode cX12_bests 302 = .ok (.iload 4, 2) := by decide +kernel
theorem dX12_bests_304 : decode cX12_bests 304 = .ok (.if_icmp .gt 38, 3) := by decide +kernel
theorem dX12_bests_307 : decode cX12_bests 307 = .ok (.iload 8, 2) := by decide +kernel
theorem dX12_bests_309 : decode cX12_bests 309 = .ok (.iload 4, 2) := by decide +kernel
theorem dX12_bests_311 : decode cX12_bests 311 = .ok (.if_icmp .ne 15, 3) := by decide +kernel
theorem dX12_bests_314 : decode cX12_bests 314 = .ok (.iload 7, 2) := by decide +kernel
theorem dX12_bests_316 : decode cX12_bests 316 = .ok (.aload_n 0, 1) := by decide +kernel
theorem dX12_bests_317 : decode cX12_bests 317 = .ok (.getfield 165, 3) := by decide +kernel
theorem dX12_bests_320 : decode cX12_bests 320 = .ok (.if_icmp .lt 6, 3) := by decide +kernel
theorem dX12_bests_323 : decode cX12_bests 323 = .ok (.goto 19, 3) := by decide +kernel
theorem dX12_bests_326 : decode cX12_bests 326 = .ok (.aload_n 0, 1) := by decide +kernel
theorem dX12_bests_327 : decode cX12_bests 327 = .ok (.iload 7, 2) := by decide +kernel
theorem dX12_bests_329 : decode cX12_bests 329 = .ok (.putfield 165, 3) := by decide +kernel
theorem dX12_bests_332 : decode cX12_bests 332 = .ok (.aload_n 0, 1) := by decide +kernel
theorem dX12_bests_333 : decode cX12_bests 333 = .ok (.iload 6, 2) := by decide +kernel
theorem dX12_bests_335 : decode cX12_bests 335 = .ok (.putfield 168, 3) := by decide +kernel
theorem dX12_bests_338 : decode cX12_bests 338 = .ok (.iload 8, 2) := by decide +kernel
theorem dX12_bests_340 : decode cX12_bests 340 = .ok (.istore 4, 2) := by decide +kernel
theorem dX12_bests_342 : decode cX12_bests 342 = .ok (.iinc 5 1, 3) := by decide +kernel
theorem dX12_bests_345 : decode cX12_bests 345 = .ok (.goto (-211), 3) := by decide +kernel
theorem dX12_bests_348 : decode cX12_bests 348 = .ok (.iconst 0, 1) := by decide +kernel
theorem dX12_bests_349 : decode cX12_bests 349 = .ok (.ireturn, 1) := by decide +kernel
theorem dX12_best_0 : decode cX12_best 0 = .ok (.aload_n 0, 1) := by decide +kernel
theorem dX12_best_1 : decode cX12_best 1 = .ok (.iload_n 1, 1) := by decide +kernel
theorem dX12_best_2 : decode cX12_best 2 = .ok (.invokevirtual 173, 3) := by decide +kernel
theorem dX12_best_5 : decode cX12_best 5 = .ok (.istore_n 2, 1) := by decide +kernel
theorem dX12_best_6 : decode cX12_best 6 = .ok (.iload_n 2, 1) := by decide +kernel
theorem dX12_best_7 : decode cX12_best 7 = .ok (.ifCond .eq 11, 3) := by decide +kernel
theorem dX12_best_10 : decode cX12_best 10 = .ok (.aload_n 0, 1) := by decide +kernel
theorem dX12_best_11 : decode cX12_best 11 = .ok (.iload_n 2, 1) := by decide +kernel
theorem dX12_best_12 : decode cX12_best 12 = .ok (.invokevirtual 103, 3) := by decide +kernel
theorem dX12_best_15 : decode cX12_best 15 = .ok (.goto 7, 3) := by decide +kernel
theorem dX12_best_18 : decode cX12_best 18 = .ok (.aload_n 0, 1) := by decide +kernel
theorem dX12_best_19 : decode cX12_best 19 = .ok (.getfield 165, 3) := by decide +kernel
theorem dX12_best_22 : decode cX12_best 22 = .ok (.ireturn, 1) := by decide +kernel
theorem dX12_bestWorth_0 : decode cX12_bestWorth 0 = .ok (.aload_n 0, 1) := by decide +kernel
theorem dX12_bestWorth_1 : decode cX12_bestWorth 1 = .ok (.iload_n 1, 1) := by decide +kernel
theorem dX12_bestWorth_2 : decode cX12_bestWorth 2 = .ok (.invokevirtual 173, 3) := by decide +kernel
theorem dX12_bestWorth_5 : decode cX12_bestWorth 5 = .ok (.istore_n 2, 1) := by decide +kernel
theorem dX12_bestWorth_6 : decode cX12_bestWorth 6 = .ok (.iload_n 2, 1) := by decide +kernel
theorem dX12_bestWorth_7 : decode cX12_bestWorth 7 = .ok (.ifCond .eq 11, 3) := by decide +kernel
theorem dX12_bestWorth_10 : decode cX12_bestWorth 10 = .ok (.aload_n 0, 1) := by decide +kernel
theorem dX12_bestWorth_11 : decode cX12_bestWorth 11 = .ok (.iload_n 2, 1) := by decide +kernel
theorem dX12_bestWorth_12 : decode cX12_bestWorth 12 = .ok (.invokevirtual 103, 3) := by decide +kernel
theorem dX12_bestWorth_15 : decode cX12_bestWorth 15 = .ok (.goto 7, 3) := by decide +kernel
theorem dX12_bestWorth_18 : decode cX12_bestWorth 18 = .ok (.aload_n 0, 1) := by decide +kernel
theorem dX12_bestWorth_19 : decode cX12_bestWorth 19 = .ok (.getfield 168, 3) := by decide +kernel
theorem dX12_bestWorth_22 : decode cX12_bestWorth 22 = .ok (.ireturn, 1) := by decide +kernel
theorem dX12_wanders_0 : decode cX12_wanders 0 = .ok (.aload_n 0, 1) := by decide +kernel
theorem dX12_wanders_1 : decode cX12_wanders 1 = .ok (.getfield 46, 3) := by decide +kernel
theorem dX12_wanders_4 : decode cX12_wanders 4 = .ok (.iload_n 1, 1) := by decide +kernel
theorem dX12_wanders_5 : decode cX12_wanders 5 = .ok (.iaload, 1) := by decide +kernel
theorem dX12_wanders_6 : decode cX12_wanders 6 = .ok (.bipush 50, 2) := by decide +kernel
theorem dX12_wanders_8 : decode cX12_wanders 8 = .ok (.idiv, 1) := by decide +kernel
theorem dX12_wanders_9 : decode cX12_wanders 9 = .ok (.istore_n 2, 1) := by decide +kernel
theorem dX12_wanders_10 : decode cX12_wanders 10 = .ok (.aload_n 0, 1) := by decide +kernel
theorem dX12_wanders_11 : decode cX12_wanders 11 = .ok (.getfield 46, 3) := by decide +kernel
theorem dX12_wanders_14 : decode cX12_wanders 14 = .ok (.iload_n 1, 1) := by decide +kernel
theorem dX12_wanders_15 : decode cX12_wanders 15 = .ok (.iaload, 1) := by decide +kernel
theorem dX12_wanders_16 : decode cX12_wanders 16 = .ok (.bipush 50, 2) := by decide +kernel
theorem dX12_wanders_18 : decode cX12_wanders 18 = .ok (.irem, 1) := by decide +kernel
theorem dX12_wanders_19 : decode cX12_wanders 19 = .ok (.ifCond .eq 4, 3) := by decide +kernel
theorem dX12_wanders_22 : decode cX12_wanders 22 = .ok (.return_, 1) := by decide +kernel
theorem dX12_wanders_23 : decode cX12_wanders 23 = .ok (.bipush 6, 2) := by decide +kernel
theorem dX12_wanders_25 : decode cX12_wanders 25 = .ok (.iload_n 1, 1) := by decide +kernel
theorem dX12_wanders_26 : decode cX12_wanders 26 = .ok (.imul, 1) := by decide +kernel
theorem dX12_wanders_27 : decode cX12_wanders 27 = .ok (.iload_n 2, 1) := by decide +kernel
theorem dX12_wanders_28 : decode cX12_wanders 28 = .ok (.iload_n 1, 1) := by decide +kernel
theorem dX12_wanders_29 : decode cX12_wanders 29 = .ok (.iadd, 1) := by decide +kernel
theorem dX12_wanders_30 : decode cX12_wanders 30 = .ok (.bipush 6, 2) := by decide +kernel
theorem dX12_wanders_32 : decode cX12_wanders 32 = .ok (.irem, 1) := by decide +kernel
theorem dX12_wanders_33 : decode cX12_wanders 33 = .ok (.iadd, 1) := by decide +kernel
theorem dX12_wanders_34 : decode cX12_wanders 34 = .ok (.istore_n 3, 1) := by decide +kernel
theorem dX12_wanders_35 : decode cX12_wanders 35 = .ok (.aload_n 0, 1) := by decide +kernel
theorem dX12_wanders_36 : decode cX12_wanders 36 = .ok (.getfield 43, 3) := by decide +kernel
theorem dX12_wanders_39 : decode cX12_wanders 39 = .ok (.iload_n 3, 1) := by decide +kernel
theorem dX12_wanders_40 : decode cX12_wanders 40 = .ok (.iconst 0, 1) := by decide +kernel
theorem dX12_wanders_41 : decode cX12_wanders 41 = .ok (.bipush 99, 2) := by decide +kernel
theorem dX12_wanders_43 : decode cX12_wanders 43 = .ok (.aload_n 0, 1) := by decide +kernel
theorem dX12_wanders_44 : decode cX12_wanders 44 = .ok (.getfield 43, 3) := by decide +kernel
theorem dX12_wanders_47 : decode cX12_wanders 47 = .ok (.iload_n 3, 1) := by decide +kernel
theorem dX12_wanders_48 : decode cX12_wanders 48 = .ok (.iaload, 1) := by decide +kernel
theorem dX12_wanders_49 : decode cX12_wanders 49 = .ok (.iload_n 2, 1) := by decide +kernel
theorem dX12_wanders_50 : decode cX12_wanders 50 = .ok (.bipush 6, 2) := by decide +kernel
theorem dX12_wanders_52 : decode cX12_wanders 52 = .ok (.idiv, 1) := by decide +kernel
theorem dX12_wanders_53 : decode cX12_wanders 53 = .ok (.iconst 2, 1) := by decide +kernel
theorem dX12_wanders_54 : decode cX12_wanders 54 = .ok (.irem, 1) := by decide +kernel
theorem dX12_wanders_55 : decode cX12_wanders 55 = .ok (.ifCond .ne 7, 3) := by decide +kernel
theorem dX12_wanders_58 : decode cX12_wanders 58 = .ok (.iconst 1, 1) := by decide +kernel
theorem dX12_wanders_59 : decode cX12_wanders 59 = .ok (.goto 4, 3) := by decide +kernel
theorem dX12_wanders_62 : decode cX12_wanders 62 = .ok (.iconst (-1), 1) := by decide +kernel
theorem dX12_wanders_63 : decode cX12_wanders 63 = .ok (.iadd, 1) := by decide +kernel
theorem dX12_wanders_64 : decode cX12_wanders 64 = .ok (.invokestatic 124, 3) := by decide +kernel
theorem dX12_wanders_67 : decode cX12_wanders 67 = .ok (.invokestatic 141, 3) := by decide +kernel
theorem dX12_wanders_70 : decode cX12_wanders 70 = .ok (.iastore, 1) := by decide +kernel
theorem dX12_wanders_71 : decode cX12_wanders 71 = .ok (.return_, 1) := by decide +kernel
theorem dX12_sheet_0 : decode cX12_sheet 0 = .ok (.aload_n 0, 1) := by decide +kernel
theorem dX12_sheet_1 : decode cX12_sheet 1 = .ok (.getfield 49, 3) := by decide +kernel
theorem dX12_sheet_4 : decode cX12_sheet 4 = .ok (.iload_n 1, 1) := by decide +kernel
theorem dX12_sheet_5 : decode cX12_sheet 5 = .ok (.iaload, 1) := by decide +kernel
theorem dX12_sheet_6 : decode cX12_sheet 6 = .ok (.istore_n 2, 1) := by decide +kernel
theorem dX12_sheet_7 : decode cX12_sheet 7 = .ok (.aload_n 0, 1) := by decide +kernel
theorem dX12_sheet_8 : decode cX12_sheet 8 = .ok (.getfield 86, 3) := by decide +kernel
theorem dX12_sheet_11 : decode cX12_sheet 11 = .ok (.bipush 96, 2) := by decide +kernel
theorem dX12_sheet_13 : decode cX12_sheet 13 = .ok (.aload_n 0, 1) := by decide +kernel
theorem dX12_sheet_14 : decode cX12_sheet 14 = .ok (.getfield 52, 3) := by decide +kernel
theorem dX12_sheet_17 : decode cX12_sheet 17 = .ok (.iload_n 1, 1) := by decide +kernel
theorem dX12_sheet_18 : decode cX12_sheet 18 = .ok (.iaload, 1) := by decide +kernel
theorem dX12_sheet_19 : decode cX12_sheet 19 = .ok (.iadd, 1) := by decide +kernel
theorem dX12_sheet_20 : decode cX12_sheet 20 = .ok (.dup2, 1) := by decide +kernel
theorem dX12_sheet_21 : decode cX12_sheet 21 = .ok (.iaload, 1) := by decide +kernel
theorem dX12_sheet_22 : decode cX12_sheet 22 = .ok (.aload_n 0, 1) := by decide +kernel
theorem dX12_sheet_23 : decode cX12_sheet 23 = .ok (.getfield 40, 3) := by decide +kernel
theorem dX12_sheet_26 : decode cX12_sheet 26 = .ok (.iload_n 2, 1) := by decide +kernel
theorem dX12_sheet_27 : decode cX12_sheet 27 = .ok (.iaload, 1) := by decide +kernel
theorem dX12_sheet_28 : decode cX12_sheet 28 = .ok (.isub, 1) := by decide +kernel
theorem dX12_sheet_29 : decode cX12_sheet 29 = .ok (.iastore, 1) := by decide +kernel
theorem dX12_sheet_30 : decode cX12_sheet 30 = .ok (.aload_n 0, 1) := by decide +kernel
theorem dX12_sheet_31 : decode cX12_sheet 31 = .ok (.getfield 86, 3) := by decide +kernel
theorem dX12_sheet_34 : decode cX12_sheet 34 = .ok (.bipush 105, 2) := by decide +kernel
theorem dX12_sheet_36 : decode cX12_sheet 36 = .ok (.iconst 2, 1) := by decide +kernel
theorem dX12_sheet_37 : decode cX12_sheet 37 = .ok (.iload_n 1, 1) := by decide +kernel
theorem dX12_sheet_38 : decode cX12_sheet 38 = .ok (.imul, 1) := by decide +kernel
theorem dX12_sheet_39 : decode cX12_sheet 39 = .ok (.iadd, 1) := by decide +kernel
theorem dX12_sheet_40 : decode cX12_sheet 40 = .ok (.iaload, 1) := by decide +kernel
theorem dX12_sheet_41 : decode cX12_sheet 41 = .ok (.istore_n 3, 1) := by decide +kernel
theorem dX12_sheet_42 : decode cX12_sheet 42 = .ok (.iconst 2, 1) := by decide +kernel
theorem dX12_sheet_43 : decode cX12_sheet 43 = .ok (.iload_n 2, 1) := by decide +kernel
theorem dX12_sheet_44 : decode cX12_sheet 44 = .ok (.imul, 1) := by decide +kernel
theorem dX12_sheet_45 : decode cX12_sheet 45 = .ok (.iload_n 3, 1) := by decide +kernel
theorem dX12_sheet_46 : decode cX12_sheet 46 = .ok (.iconst 2, 1) := by decide +kernel
theorem dX12_sheet_47 : decode cX12_sheet 47 = .ok (.irem, 1) := by decide +kernel
theorem dX12_sheet_48 : decode cX12_sheet 48 = .ok (.iadd, 1) := by decide +kernel
theorem dX12_sheet_49 : decode cX12_sheet 49 = .ok (.istore 4, 2) := by decide +kernel
theorem dX12_sheet_51 : decode cX12_sheet 51 = .ok (.aload_n 0, 1) := by decide +kernel
theorem dX12_sheet_52 : decode cX12_sheet 52 = .ok (.getfield 176, 3) := by decide +kernel
theorem dX12_sheet_55 : decode cX12_sheet 55 = .ok (.ifCond .ne 66, 3) := by decide +kernel
theorem dX12_sheet_58 : decode cX12_sheet 58 = .ok (.iconst 0, 1) := by decide +kernel
theorem dX12_sheet_59 : decode cX12_sheet 59 = .ok (.istore 5, 2) := by decide +kernel
theorem dX12_sheet_61 : decode cX12_sheet 61 = .ok (.iload 5, 2) := by decide +kernel
theorem dX12_sheet_63 : decode cX12_sheet 63 = .ok (.bipush 6, 2) := by decide +kernel
theorem dX12_sheet_65 : decode cX12_sheet 65 = .ok (.if_icmp .ge 39, 3) := by decide +kernel
theorem dX12_sheet_68 : decode cX12_sheet 68 = .ok (.aload_n 0, 1) := by decide +kernel
theorem dX12_sheet_69 : decode cX12_sheet 69 = .ok (.getfield 80, 3) := by decide +kernel
theorem dX12_sheet_72 : decode cX12_sheet 72 = .ok (.bipush 6, 2) := by decide +kernel
theorem dX12_sheet_74 : decode cX12_sheet 74 = .ok (.bipush 60, 2) := by decide +kernel
theorem dX12_sheet_76 : decode cX12_sheet 76 = .ok (.iload_n 1, 1) := by decide +kernel
theorem dX12_sheet_77 : decode cX12_sheet 77 = .ok (.imul, 1) := by decide +kernel
theorem dX12_sheet_78 : decode cX12_sheet 78 = .ok (.iload_n 3, 1) := by decide +kernel
theorem dX12_sheet_79 : decode cX12_sheet 79 = .ok (.iadd, 1) := by decide +kernel
theorem dX12_sheet_80 : decode cX12_sheet 80 = .ok (.imul, 1) := by decide +kernel
theorem dX12_sheet_81 : decode cX12_sheet 81 = .ok (.iload 5, 2) := by decide +kernel
theorem dX12_sheet_83 : decode cX12_sheet 83 = .ok (.iadd, 1) := by decide +kernel
theorem dX12_sheet_84 : decode cX12_sheet 84 = .ok (.aload_n 0, 1) := by decide +kernel
theorem dX12_sheet_85 : decode cX12_sheet 85 = .ok (.getfield 43, 3) := by decide +kernel
theorem dX12_sheet_88 : decode cX12_sheet 88 = .ok (.bipush 6, 2) := by decide +kernel
theorem dX12_sheet_90 : decode cX12_sheet 90 = .ok (.iload 4, 2) := by decide +kernel
theorem dX12_sheet_92 : decode cX12_sheet 92 = .ok (.imul, 1) := by decide +kernel
theorem dX12_sheet_93 : decode cX12_sheet 93 = .ok (.iload 5, 2) := by decide +kernel
theorem dX12_sheet_95 : decode cX12_sheet 95 = .ok (.iadd, 1) := by decide +kernel
theorem dX12_sheet_96 : decode cX12_sheet 96 = .ok (.iaload, 1) := by decide +kernel
theorem dX12_sheet_97 : decode cX12_sheet 97 = .ok (.iastore, 1) := by decide +kernel
theorem dX12_sheet_98 : decode cX12_sheet 98 = .ok (.iinc 5 1, 3) := by decide +kernel
theorem dX12_sheet_101 : decode cX12_sheet 101 = .ok (.goto (-40), 3) := by decide +kernel
theorem dX12_sheet_104 : decode cX12_sheet 104 = .ok (.aload_n 0, 1) := by decide +kernel
theorem dX12_sheet_105 : decode cX12_sheet 105 = .ok (.getfield 46, 3) := by decide +kernel
theorem dX12_sheet_108 : decode cX12_sheet 108 = .ok (.iload 4, 2) := by decide +kernel
theorem dX12_sheet_110 : decode cX12_sheet 110 = .ok (.dup2, 1) := by decide +kernel
theorem dX12_sheet_111 : decode cX12_sheet 111 = .ok (.iaload, 1) := by decide +kernel
theorem dX12_sheet_112 : decode cX12_sheet 112 = .ok (.iconst 1, 1) := by decide +kernel
theorem dX12_sheet_113 : decode cX12_sheet 113 = .ok (.iadd, 1) := by decide +kernel
theorem dX12_sheet_114 : decode cX12_sheet 114 = .ok (.iastore, 1) := by decide +kernel
theorem dX12_sheet_115 : decode cX12_sheet 115 = .ok (.aload_n 0, 1) := by decide +kernel
theorem dX12_sheet_116 : decode cX12_sheet 116 = .ok (.iload 4, 2) := by decide +kernel
theorem dX12_sheet_118 : decode cX12_sheet 118 = .ok (.invokevirtual 180, 3) := by decide +kernel
theorem dX12_sheet_121 : decode cX12_sheet 121 = .ok (.aload_n 0, 1) := by decide +kernel
theorem dX12_sheet_122 : decode cX12_sheet 122 = .ok (.getfield 86, 3) := by decide +kernel
theorem dX12_sheet_125 : decode cX12_sheet 125 = .ok (.sipush 753, 3) := by decide +kernel
theorem dX12_sheet_128 : decode cX12_sheet 128 = .ok (.dup2, 1) := by decide +kernel
theorem dX12_sheet_129 : decode cX12_sheet 129 = .ok (.iaload, 1) := by decide +kernel
theorem dX12_sheet_130 : decode cX12_sheet 130 = .ok (.iconst 1, 1) := by decide +kernel
theorem dX12_sheet_131 : decode cX12_sheet 131 = .ok (.iadd, 1) := by decide +kernel
theorem dX12_sheet_132 : decode cX12_sheet 132 = .ok (.iastore, 1) := by decide +kernel
theorem dX12_sheet_133 : decode cX12_sheet 133 = .ok (.aload_n 0, 1) := by decide +kernel
theorem dX12_sheet_134 : decode cX12_sheet 134 = .ok (.getfield 86, 3) := by decide +kernel
theorem dX12_sheet_137 : decode cX12_sheet 137 = .ok (.bipush 105, 2) := by decide +kernel
theorem dX12_sheet_139 : decode cX12_sheet 139 = .ok (.iconst 2, 1) := by decide +kernel
theorem dX12_sheet_140 : decode cX12_sheet 140 = .ok (.iload_n 1, 1) := by decide +kernel
theorem dX12_sheet_141 : decode cX12_sheet 141 = .ok (.imul, 1) := by decide +kernel
theorem dX12_sheet_142 : decode cX12_sheet 142 = .ok (.iadd, 1) := by decide +kernel
theorem dX12_sheet_143 : decode cX12_sheet 143 = .ok (.dup2, 1) := by decide +kernel
theorem dX12_sheet_144 : decode cX12_sheet 144 = .ok (.iaload, 1) := by decide +kernel
theorem dX12_sheet_145 : decode cX12_sheet 145 = .ok (.iconst 1, 1) := by decide +kernel
theorem dX12_sheet_146 : decode cX12_sheet 146 = .ok (.iadd, 1) := by decide +kernel
theorem dX12_sheet_147 : decode cX12_sheet 147 = .ok (.iastore, 1) := by decide +kernel
theorem dX12_sheet_148 : decode cX12_sheet 148 = .ok (.iload_n 3, 1) := by decide +kernel
theorem dX12_sheet_149 : decode cX12_sheet 149 = .ok (.iconst 1, 1) := by decide +kernel
theorem dX12_sheet_150 : decode cX12_sheet 150 = .ok (.iadd, 1) := by decide +kernel
theorem dX12_sheet_151 : decode cX12_sheet 151 = .ok (.bipush 60, 2) := by decide +kernel
theorem dX12_sheet_153 : decode cX12_sheet 153 = .ok (.if_icmp .ge 4, 3) := by decide +kernel
theorem dX12_sheet_156 : decode cX12_sheet 156 = .ok (.return_, 1) := by decide +kernel
theorem dX12_sheet_157 : decode cX12_sheet 157 = .ok (.aload_n 0, 1) := by decide +kernel
theorem dX12_sheet_158 : decode cX12_sheet 158 = .ok (.getfield 86, 3) := by decide +kernel
theorem dX12_sheet_161 : decode cX12_sheet 161 = .ok (.bipush 105, 2) := by decide +kernel
theorem dX12_sheet_163 : decode cX12_sheet 163 = .ok (.iconst 2, 1) := by decide +kernel
theorem dX12_sheet_164 : decode cX12_sheet 164 = .ok (.iload_n 1, 1) := by decide +kernel
theorem dX12_sheet_165 : decode cX12_sheet 165 = .ok (.imul, 1) := by decide +kernel
theorem dX12_sheet_166 : decode cX12_sheet 166 = .ok (.iadd, 1) := by decide +kernel
theorem dX12_sheet_167 : decode cX12_sheet 167 = .ok (.iconst 0, 1) := by decide +kernel
theorem dX12_sheet_168 : decode cX12_sheet 168 = .ok (.iastore, 1) := by decide +kernel
theorem dX12_sheet_169 : decode cX12_sheet 169 = .ok (.aload_n 0, 1) := by decide +kernel
theorem dX12_sheet_170 : decode cX12_sheet 170 = .ok (.getfield 86, 3) := by decide +kernel
theorem dX12_sheet_173 : decode cX12_sheet 173 = .ok (.sipush 752, 3) := by decide +kernel
theorem dX12_sheet_176 : decode cX12_sheet 176 = .ok (.iaload, 1) := by decide +kernel
theorem dX12_sheet_177 : decode cX12_sheet 177 = .ok (.istore 5, 2) := by decide +kernel
theorem dX12_sheet_179 : decode cX12_sheet 179 = .ok (.aload_n 0, 1) := by decide +kernel
theorem dX12_sheet_180 : decode cX12_sheet 180 = .ok (.getfield 86, 3) := by decide +kernel
theorem dX12_sheet_183 : decode cX12_sheet 183 = .ok (.sipush 752, 3) := by decide +kernel
theorem dX12_sheet_186 : decode cX12_sheet 186 = .ok (.dup2, 1) := by decide +kernel
theorem dX12_sheet_187 : decode cX12_sheet 187 = .ok (.iaload, 1) := by decide +kernel
theorem dX12_sheet_188 : decode cX12_sheet 188 = .ok (.iconst 1, 1) := by decide +kernel
theorem dX12_sheet_189 : decode cX12_sheet 189 = .ok (.iadd, 1) := by decide +kernel
theorem dX12_sheet_190 : decode cX12_sheet 190 = .ok (.iastore, 1) := by decide +kernel
theorem dX12_sheet_191 : decode cX12_sheet 191 = .ok (.aload_n 0, 1) := by decide +kernel
theorem dX12_sheet_192 : decode cX12_sheet 192 = .ok (.iload 5, 2) := by decide +kernel
theorem dX12_sheet_194 : decode cX12_sheet 194 = .ok (.iconst 0, 1) := by decide +kernel
theorem dX12_sheet_195 : decode cX12_sheet 195 = .ok (.iconst 0, 1) := by decide +kernel
theorem dX12_sheet_196 : decode cX12_sheet 196 = .ok (.invokevirtual 144, 3) := by decide +kernel
theorem dX12_sheet_199 : decode cX12_sheet 199 = .ok (.aload_n 0, 1) := by decide +kernel
theorem dX12_sheet_200 : decode cX12_sheet 200 = .ok (.iload 5, 2) := by decide +kernel
theorem dX12_sheet_202 : decode cX12_sheet 202 = .ok (.iconst 1, 1) := by decide +kernel
theorem dX12_sheet_203 : decode cX12_sheet 203 = .ok (.iload_n 2, 1) := by decide +kernel
theorem dX12_sheet_204 : decode cX12_sheet 204 = .ok (.invokevirtual 144, 3) := by decide +kernel
theorem dX12_sheet_207 : decode cX12_sheet 207 = .ok (.aload_n 0, 1) := by decide +kernel
theorem dX12_sheet_208 : decode cX12_sheet 208 = .ok (.iload 5, 2) := by decide +kernel
theorem dX12_sheet_210 : decode cX12_sheet 210 = .ok (.iconst 2, 1) := by decide +kernel
theorem dX12_sheet_211 : decode cX12_sheet 211 = .ok (.aload_n 0, 1) := by decide +kernel
theorem dX12_sheet_212 : decode cX12_sheet 212 = .ok (.getfield 52, 3) := by decide +kernel
theorem dX12_sheet_215 : decode cX12_sheet 215 = .ok (.iload_n 1, 1) := by decide +kernel
theorem dX12_sheet_216 : decode cX12_sheet 216 = .ok (.iaload, 1) := by decide +kernel
theorem dX12_sheet_217 : decode cX12_sheet 217 = .ok (.invokevirtual 144, 3) := by decide +kernel
theorem dX12_sheet_220 : decode cX12_sheet 220 = .ok (.aload_n 0, 1) := by decide +kernel
theorem dX12_sheet_221 : decode cX12_sheet 221 = .ok (.iload 5, 2) := by decide +kernel
theorem dX12_sheet_223 : decode cX12_sheet 223 = .ok (.iconst 3, 1) := by decide +kernel
theorem dX12_sheet_224 : decode cX12_sheet 224 = .ok (.aload_n 0, 1) := by decide +kernel
theorem dX12_sheet_225 : decode cX12_sheet 225 = .ok (.getfield 86, 3) := by decide +kernel
theorem dX12_sheet_228 : decode cX12_sheet 228 = .ok (.sipush 751, 3) := by decide +kernel
theorem dX12_sheet_231 : decode cX12_sheet 231 = .ok (.iaload, 1) := by decide +kernel
theorem dX12_sheet_232 : decode cX12_sheet 232 = .ok (.invokevirtual 144, 3) := by decide +kernel
theorem dX12_sheet_235 : decode cX12_sheet 235 = .ok (.aload_n 0, 1) := by decide +kernel
theorem dX12_sheet_236 : decode cX12_sheet 236 = .ok (.iload 5, 2) := by decide +kernel
theorem dX12_sheet_238 : decode cX12_sheet 238 = .ok (.iconst 4, 1) := by decide +kernel
theorem dX12_sheet_239 : decode cX12_sheet 239 = .ok (.bipush (-9), 2) := by decide +kernel
theorem dX12_sheet_241 : decode cX12_sheet 241 = .ok (.invokevirtual 144, 3) := by decide +kernel
theorem dX12_sheet_244 : decode cX12_sheet 244 = .ok (.aload_n 0, 1) := by decide +kernel
theorem dX12_sheet_245 : decode cX12_sheet 245 = .ok (.iload 5, 2) := by decide +kernel
theorem dX12_sheet_247 : decode cX12_sheet 247 = .ok (.iconst 5, 1) := by decide +kernel
theorem dX12_sheet_248 : decode cX12_sheet 248 = .ok (.iconst 0, 1) := by decide +kernel
theorem dX12_sheet_249 : decode cX12_sheet 249 = .ok (.invokevirtual 144, 3) := by decide +kernel
theorem dX12_sheet_252 : decode cX12_sheet 252 = .ok (.aload_n 0, 1) := by decide +kernel
theorem dX12_sheet_253 : decode cX12_sheet 253 = .ok (.iload 5, 2) := by decide +kernel
theorem dX12_sheet_255 : decode cX12_sheet 255 = .ok (.bipush 6, 2) := by decide +kernel
theorem dX12_sheet_257 : decode cX12_sheet 257 = .ok (.bipush (-9), 2) := by decide +kernel
theorem dX12_sheet_259 : decode cX12_sheet 259 = .ok (.invokevirtual 144, 3) := by decide +kernel
theorem dX12_sheet_262 : decode cX12_sheet 262 = .ok (.aload_n 0, 1) := by decide +kernel
theorem dX12_sheet_263 : decode cX12_sheet 263 = .ok (.iload 5, 2) := by decide +kernel
theorem dX12_sheet_265 : decode cX12_sheet 265 = .ok (.bipush 7, 2) := by decide +kernel
theorem dX12_sheet_267 : decode cX12_sheet 267 = .ok (.bipush (-9), 2) := by decide +kernel
theorem dX12_sheet_269 : decode cX12_sheet 269 = .ok (.invokevirtual 144, 3) := by decide +kernel
theorem dX12_sheet_272 : decode cX12_sheet 272 = .ok (.iconst 0, 1) := by decide +kernel
theorem dX12_sheet_273 : decode cX12_sheet 273 = .ok (.istore 6, 2) := by decide +kernel
theorem dX12_sheet_275 : decode cX12_sheet 275 = .ok (.iload 6, 2) := by decide +kernel
theorem dX12_sheet_277 : decode cX12_sheet 277 = .ok (.sipush 360, 3) := by decide +kernel
theorem dX12_sheet_280 : decode cX12_sheet 280 = .ok (.if_icmp .ge 43, 3) := by decide +kernel
theorem dX12_sheet_283 : decode cX12_sheet 283 = .ok (.aload_n 0, 1) := by decide +kernel
theorem dX12_sheet_284 : decode cX12_sheet 284 = .ok (.getfield 176, 3) := by decide +kernel
theorem dX12_sheet_287 : decode cX12_sheet 287 = .ok (.ifCond .ne 36, 3) := by decide +kernel
theorem dX12_sheet_290 : decode cX12_sheet 290 = .ok (.aload_n 0, 1) := by decide +kernel
theorem dX12_sheet_291 : decode cX12_sheet 291 = .ok (.getfield 77, 3) := by decide +kernel
theorem dX12_sheet_294 : decode cX12_sheet 294 = .ok (.sipush 360, 3) := by decide +kernel
theorem dX12_sheet_297 : decode cX12_sheet 297 = .ok (.iload 5, 2) := by decide +kernel
theorem dX12_sheet_299 : decode cX12_sheet 299 = .ok (.imul, 1) := by decide +kernel
theorem dX12_sheet_300 : decode cX12_sheet 300 = .ok (.iload 6, 2) := by decide +kernel
theorem dX12_sheet_302 : decode cX12_sheet 302 = .ok (.iadd, 1) := by decide +kernel
theorem dX12_sheet_303 : decode cX12_sheet 303 = .ok (.aload_n 0, 1) := by decide +kernel
theorem dX12_sheet_304 : decode cX12_sheet 304 = .ok (.getfield 80, 3) := by decide +kernel
theorem dX12_sheet_307 : decode cX12_sheet 307 = .ok (.sipush 360, 3) := by decide +kernel
theorem dX12_sheet_310 : decode cX12_sheet 310 = .ok (.iload_n 1, 1) := by decide +kernel
theorem dX12_sheet_311 : decode cX12_sheet 311 = .ok (.imul, 1) := by decide +kernel
theorem dX12_sheet_312 : decode cX12_sheet 312 = .ok (.iload 6, 2) := by decide +kernel
theorem dX12_sheet_314 : decode cX12_sheet 314 = .ok (.iadd, 1) := by decide +kernel
theorem dX12_sheet_315 : decode cX12_sheet 315 = .ok (.iaload, 1) := by decide +kernel
theorem dX12_sheet_316 : decode cX12_sheet 316 = .ok (.iastore, 1) := by decide +kernel
theorem dX12_sheet_317 : decode cX12_sheet 317 = .ok (.iinc 6 1, 3) := by decide +kernel
theorem dX12_sheet_320 : decode cX12_sheet 320 = .ok (.goto (-45), 3) := by decide +kernel
theorem dX12_sheet_323 : decode cX12_sheet 323 = .ok (.return_, 1) := by decide +kernel
theorem dX12_hasPulp_0 : decode cX12_hasPulp 0 = .ok (.aload_n 0, 1) := by decide +kernel
theorem dX12_hasPulp_1 : decode cX12_hasPulp 1 = .ok (.getfield 86, 3) := by decide +kernel
theorem dX12_hasPulp_4 : decode cX12_hasPulp 4 = .ok (.sipush 752, 3) := by decide +kernel
theorem dX12_hasPulp_7 : decode cX12_hasPulp 7 = .ok (.iaload, 1) := by decide +kernel
theorem dX12_hasPulp_8 : decode cX12_hasPulp 8 = .ok (.bipush 80, 2) := by decide +kernel
theorem dX12_hasPulp_10 : decode cX12_hasPulp 10 = .ok (.if_icmp .ge 35, 3) := by decide +kernel
theorem dX12_hasPulp_13 : decode cX12_hasPulp 13 = .ok (.aload_n 0, 1) := by decide +kernel
theorem dX12_hasPulp_14 : decode cX12_hasPulp 14 = .ok (.getfield 86, 3) := by decide +kernel
theorem dX12_hasPulp_17 : decode cX12_hasPulp 17 = .ok (.bipush 96, 2) := by decide +kernel
theorem dX12_hasPulp_19 : decode cX12_hasPulp 19 = .ok (.aload_n 0, 1) := by decide +kernel
theorem dX12_hasPulp_20 : decode cX12_hasPulp 20 = .ok (.getfield 52, 3) := by decide +kernel
theorem dX12_hasPulp_23 : decode cX12_hasPulp 23 = .ok (.iload_n 1, 1) := by decide +kernel
theorem dX12_hasPulp_24 : decode cX12_hasPulp 24 = .ok (.iaload, 1) := by decide +kernel
theorem dX12_hasPulp_25 : decode cX12_hasPulp 25 = .ok (.iadd, 1) := by decide +kernel
theorem dX12_hasPulp_26 : decode cX12_hasPulp 26 = .ok (.iaload, 1) := by decide +kernel
theorem dX12_hasPulp_27 : decode cX12_hasPulp 27 = .ok (.aload_n 0, 1) := by decide +kernel
theorem dX12_hasPulp_28 : decode cX12_hasPulp 28 = .ok (.getfield 40, 3) := by decide +kernel
theorem dX12_hasPulp_31 : decode cX12_hasPulp 31 = .ok (.aload_n 0, 1) := by decide +kernel
theorem dX12_hasPulp_32 : decode cX12_hasPulp 32 = .ok (.getfield 49, 3) := by decide +kernel
theorem dX12_hasPulp_35 : decode cX12_hasPulp 35 = .ok (.iload_n 1, 1) := by decide +kernel
theorem dX12_hasPulp_36 : decode cX12_hasPulp 36 = .ok (.iaload, 1) := by decide +kernel
theorem dX12_hasPulp_37 : decode cX12_hasPulp 37 = .ok (.iaload, 1) := by decide +kernel
theorem dX12_hasPulp_38 : decode cX12_hasPulp 38 = .ok (.if_icmp .lt 7, 3) := by decide +kernel
theorem dX12_hasPulp_41 : decode cX12_hasPulp 41 = .ok (.iconst 1, 1) := by decide +kernel
theorem dX12_hasPulp_42 : decode cX12_hasPulp 42 = .ok (.goto 4, 3) := by decide +kernel
theorem dX12_hasPulp_45 : decode cX12_hasPulp 45 = .ok (.iconst 0, 1) := by decide +kernel
theorem dX12_hasPulp_46 : decode cX12_hasPulp 46 = .ok (.ireturn, 1) := by decide +kernel
theorem dX12_works_0 : decode cX12_works 0 = .ok (.iload_n 1, 1) := by decide +kernel
theorem dX12_works_1 : decode cX12_works 1 = .ok (.istore_n 2, 1) := by decide +kernel
theorem dX12_works_2 : decode cX12_works 2 = .ok (.iconst 0, 1) := by decide +kernel
theorem dX12_works_3 : decode cX12_works 3 = .ok (.istore_n 3, 1) := by decide +kernel
theorem dX12_works_4 : decode cX12_works 4 = .ok (.iload_n 3, 1) := by decide +kernel
theorem dX12_works_5 : decode cX12_works 5 = .ok (.iconst 4, 1) := by decide +kernel
theorem dX12_works_6 : decode cX12_works 6 = .ok (.if_icmp .ge 118, 3) := by decide +kernel
theorem dX12_works_9 : decode cX12_works 9 = .ok (.bipush 80, 2) := by decide +kernel
theorem dX12_works_11 : decode cX12_works 11 = .ok (.iconst 4, 1) := by decide +kernel
theorem dX12_works_12 : decode cX12_works 12 = .ok (.iload_n 3, 1) := by decide +kernel
theorem dX12_works_13 : decode cX12_works 13 = .ok (.imul, 1) := by decide +kernel
theorem dX12_works_14 : decode cX12_works 14 = .ok (.iadd, 1) := by decide +kernel
theorem dX12_works_15 : decode cX12_works 15 = .ok (.istore 4, 2) := by decide +kernel
theorem dX12_works_17 : decode cX12_works 17 = .ok (.aload_n 0, 1) := by decide +kernel
theorem dX12_works_18 : decode cX12_works 18 = .ok (.getfield 86, 3) := by decide +kernel
theorem dX12_works_21 : decode cX12_works 21 = .ok (.iload 4, 2) := by decide +kernel
theorem dX12_works_23 : decode cX12_works 23 = .ok (.iaload, 1) := by decide +kernel
theorem dX12_works_24 : decode cX12_works 24 = .ok (.ifCond .eq 94, 3) := by decide +kernel
theorem dX12_works_27 : decode cX12_works 27 = .ok (.iload_n 2, 1) := by decide +kernel
theorem dX12_works_28 : decode cX12_works 28 = .ok (.bipush 6, 2) := by decide +kernel
theorem dX12_works_30 : decode cX12_works 30 = .ok (.if_icmp .ge 6, 3) := by decide +kernel
theorem dX12_works_33 : decode cX12_works 33 = .ok (.goto 85, 3) := by decide +kernel
theorem dX12_works_36 : decode cX12_works 36 = .ok (.iinc 2 (-6), 3) := by decide +kernel
theorem dX12_works_39 : decode cX12_works 39 = .ok (.aload_n 0, 1) := by decide +kernel
theorem dX12_works_40 : decode cX12_works 40 = .ok (.getfield 86, 3) := by decide +kernel
theorem dX12_works_43 : decode cX12_works 43 = .ok (.iload 4, 2) := by decide +kernel
theorem dX12_works_45 : decode cX12_works 45 = .ok (.iconst 2, 1) := by decide +kernel
theorem dX12_works_46 : decode cX12_works 46 = .ok (.iadd, 1) := by decide +kernel
theorem dX12_works_47 : decode cX12_works 47 = .ok (.dup2, 1) := by decide +kernel
theorem dX12_works_48 : decode cX12_works 48 = .ok (.iaload, 1) := by decide +kernel
theorem dX12_works_49 : decode cX12_works 49 = .ok (.iconst 1, 1) := by decide +kernel
theorem dX12_works_50 : decode cX12_works 50 = .ok (.isub, 1) := by decide +kernel
theorem dX12_works_51 : decode cX12_works 51 = .ok (.iastore, 1) := by decide +kernel
theorem dX12_works_52 : decode cX12_works 52 = .ok (.aload_n 0, 1) := by decide +kernel
theorem dX12_works_53 : decode cX12_works 53 = .ok (.getfield 86, 3) := by decide +kernel
theorem dX12_works_56 : decode cX12_works 56 = .ok (.iload 4, 2) := by decide +kernel
theorem dX12_works_58 : decode cX12_works 58 = .ok (.iconst 2, 1) := by decide +kernel
theorem dX12_works_59 : decode cX12_works 59 = .ok (.iadd, 1) := by decide +kernel
theorem dX12_works_60 : decode cX12_works 60 = .ok (.iaload, 1) := by decide +kernel
theorem dX12_works_61 : decode cX12_works 61 = .ok (.ifCond .le 6, 3) := by decide +kernel
theorem dX12_works_64 : decode cX12_works 64 = .ok (.goto 54, 3) := by decide +kernel
theorem dX12_works_67 : decode cX12_works 67 = .ok (.aload_n 0, 1) := by decide +kernel
theorem dX12_works_68 : decode cX12_works 68 = .ok (.getfield 86, 3) := by decide +kernel
theorem dX12_works_71 : decode cX12_works 71 = .ok (.bipush 96, 2) := by decide +kernel
theorem dX12_works_73 : decode cX12_works 73 = .ok (.aload_n 0, 1) := by decide +kernel
theorem dX12_works_74 : decode cX12_works 74 = .ok (.getfield 86, 3) := by decide +kernel
theorem dX12_works_77 : decode cX12_works 77 = .ok (.iload 4, 2) := by decide +kernel
theorem dX12_works_79 : decode cX12_works 79 = .ok (.iconst 1, 1) := by decide +kernel
theorem dX12_works_80 : decode cX12_works 80 = .ok (.iadd, 1) := by decide +kernel
theorem dX12_works_81 : decode cX12_works 81 = .ok (.iaload, 1) := by decide +kernel
theorem dX12_works_82 : decode cX12_works 82 = .ok (.iadd, 1) := by decide +kernel
theorem dX12_works_83 : decode cX12_works 83 = .ok (.dup2, 1) := by decide +kernel
theorem dX12_works_84 : decode cX12_works 84 = .ok (.iaload, 1) := by decide +kernel
theorem dX12_works_85 : decode cX12_works 85 = .ok (.bipush 14, 2) := by decide +kernel
theorem dX12_works_87 : decode cX12_works 87 = .ok (.aload_n 0, 1) := by decide +kernel
theorem dX12_works_88 : decode cX12_works 88 = .ok (.getfield 86, 3) := by decide +kernel
theorem dX12_works_91 : decode cX12_works 91 = .ok (.iload 4, 2) := by decide +kernel
theorem dX12_works_93 : decode cX12_works 93 = .ok (.iaload, 1) := by decide +kernel
theorem dX12_works_94 : decode cX12_works 94 = .ok (.imul, 1) := by decide +kernel
theorem dX12_works_95 : decode cX12_works 95 = .ok (.iadd, 1) := by decide +kernel
theorem dX12_works_96 : decode cX12_works 96 = .ok (.iastore, 1) := by decide +kernel
theorem dX12_works_97 : decode cX12_works 97 = .ok (.aload_n 0, 1) := by decide +kernel
theorem dX12_works_98 : decode cX12_works 98 = .ok (.getfield 86, 3) := by decide +kernel
theorem dX12_works_101 : decode cX12_works 101 = .ok (.iload 4, 2) := by decide +kernel
theorem dX12_works_103 : decode cX12_works 103 = .ok (.iconst 0, 1) := by decide +kernel
theorem dX12_works_104 : decode cX12_works 104 = .ok (.iastore, 1) := by decide +kernel
theorem dX12_works_105 : decode cX12_works 105 = .ok (.aload_n 0, 1) := by decide +kernel
theorem dX12_works_106 : decode cX12_works 106 = .ok (.getfield 86, 3) := by decide +kernel
theorem dX12_works_109 : decode cX12_works 109 = .ok (.iload 4, 2) := by decide +kernel
theorem dX12_works_111 : decode cX12_works 111 = .ok (.iconst 3, 1) := by decide +kernel
theorem dX12_works_112 : decode cX12_works 112 = .ok (.iadd, 1) := by decide +kernel
theorem dX12_works_113 : decode cX12_works 113 = .ok (.dup2, 1) := by decide +kernel
theorem dX12_works_114 : decode cX12_works 114 = .ok (.iaload, 1) := by decide +kernel
theorem dX12_works_115 : decode cX12_works 115 = .ok (.iconst 1, 1) := by decide +kernel
theorem dX12_works_116 : decode cX12_works 116 = .ok (.iadd, 1) := by decide +kernel
theorem dX12_works_117 : decode cX12_works 117 = .ok (.iastore, 1) := by decide +kernel
theorem dX12_works_118 : decode cX12_works 118 = .ok (.iinc 3 1, 3) := by decide +kernel
theorem dX12_works_121 : decode cX12_works 121 = .ok (.goto (-117), 3) := by decide +kernel
theorem dX12_works_124 : decode cX12_works 124 = .ok (.iconst 0, 1) := by decide +kernel
theorem dX12_works_125 : decode cX12_works 125 = .ok (.istore_n 3, 1) := by decide +kernel
theorem dX12_works_126 : decode cX12_works 126 = .ok (.iload_n 3, 1) := by decide +kernel
theorem dX12_works_127 : decode cX12_works 127 = .ok (.iconst 3, 1) := by decide +kernel
theorem dX12_works_128 : decode cX12_works 128 = .ok (.if_icmp .ge 86, 3) := by decide +kernel
theorem dX12_works_131 : decode cX12_works 131 = .ok (.aload_n 0, 1) := by decide +kernel
theorem dX12_works_132 : decode cX12_works 132 = .ok (.getfield 49, 3) := by decide +kernel
theorem dX12_works_135 : decode cX12_works 135 = .ok (.iload_n 3, 1) := by decide +kernel
theorem dX12_works_136 : decode cX12_works 136 = .ok (.iaload, 1) := by decide +kernel
theorem dX12_works_137 : decode cX12_works 137 = .ok (.ifCond .ge 6, 3) := by decide +kernel
theorem dX12_works_140 : decode cX12_works 140 = .ok (.goto 68, 3) := by decide +kernel
theorem dX12_works_143 : decode cX12_works 143 = .ok (.iload_n 2, 1) := by decide +kernel
theorem dX12_works_144 : decode cX12_works 144 = .ok (.iconst 2, 1) := by decide +kernel
theorem dX12_works_145 : decode cX12_works 145 = .ok (.if_icmp .lt 11, 3) := by decide +kernel
theorem dX12_works_148 : decode cX12_works 148 = .ok (.aload_n 0, 1) := by decide +kernel
theorem dX12_works_149 : decode cX12_works 149 = .ok (.iload_n 3, 1) := by decide +kernel
theorem dX12_works_150 : decode cX12_works 150 = .ok (.invokevirtual 184, 3) := by decide +kernel
theorem dX12_works_153 : decode cX12_works 153 = .ok (.ifCond .ne 23, 3) := by decide +kernel
theorem dX12_works_156 : decode cX12_works 156 = .ok (.aload_n 0, 1) := by decide +kernel
theorem dX12_works_157 : decode cX12_works 157 = .ok (.getfield 86, 3) := by decide +kernel
theorem dX12_works_160 : decode cX12_works 160 = .ok (.bipush 105, 2) := by decide +kernel
theorem dX12_works_162 : decode cX12_works 162 = .ok (.iconst 2, 1) := by decide +kernel
theorem dX12_works_163 : decode cX12_works 163 = .ok (.iload_n 3, 1) := by decide +kernel
theorem dX12_works_164 : decode cX12_works 164 = .ok (.imul, 1) := by decide +kernel
theorem dX12_works_165 : decode cX12_works 165 = .ok (.iadd, 1) := by decide +kernel
theorem dX12_works_166 : decode cX12_works 166 = .ok (.iconst 1, 1) := by decide +kernel
theorem dX12_works_167 : decode cX12_works 167 = .ok (.iadd, 1) := by decide +kernel
theorem dX12_works_168 : decode cX12_works 168 = .ok (.dup2, 1) := by decide +kernel
theorem dX12_works_169 : decode cX12_works 169 = .ok (.iaload, 1) := by decide +kernel
theorem dX12_works_170 : decode cX12_works 170 = .ok (.iconst 1, 1) := by decide +kernel
theorem dX12_works_171 : decode cX12_works 171 = .ok (.iadd, 1) := by decide +kernel
theorem dX12_works_172 : decode cX12_works 172 = .ok (.iastore, 1) := by decide +kernel
theorem dX12_works_173 : decode cX12_works 173 = .ok (.goto 35, 3) := by decide +kernel
theorem dX12_works_176 : decode cX12_works 176 = .ok (.iinc 2 (-2), 3) := by decide +kernel
theorem dX12_works_179 : decode cX12_works 179 = .ok (.iconst 0, 1) := by decide +kernel
theorem dX12_works_180 : decode cX12_works 180 = .ok (.istore 4, 2) := by decide +kernel
theorem dX12_works_182 : decode cX12_works 182 = .ok (.iload 4, 2) := by decide +kernel
theorem dX12_works_184 : decode cX12_works 184 = .ok (.bipush 20, 2) := by decide +kernel
theorem dX12_works_186 : decode cX12_works 186 = .ok (.if_icmp .ge 22, 3) := by decide +kernel
theorem dX12_works_189 : decode cX12_works 189 = .ok (.aload_n 0, 1) := by decide +kernel
theorem dX12_works_190 : decode cX12_works 190 = .ok (.iload_n 3, 1) := by decide +kernel
theorem dX12_works_191 : decode cX12_works 191 = .ok (.invokevirtual 184, 3) := by decide +kernel
theorem dX12_works_194 : decode cX12_works 194 = .ok (.ifCond .eq 14, 3) := by decide +kernel
theorem dX12_works_197 : decode cX12_works 197 = .ok (.aload_n 0, 1) := by decide +kernel
theorem dX12_works_198 : decode cX12_works 198 = .ok (.iload_n 3, 1) := by decide +kernel
theorem dX12_works_199 : decode cX12_works 199 = .ok (.invokevirtual 187, 3) := by decide +kernel
theorem dX12_works_202 : decode cX12_works 202 = .ok (.iinc 4 1, 3) := by decide +kernel
theorem dX12_works_205 : decode cX12_works 205 = .ok (.goto (-23), 3) := by decide +kernel
theorem dX12_works_208 : decode cX12_works 208 = .ok (.iinc 3 1, 3) := by decide +kernel
theorem dX12_works_211 : decode cX12_works 211 = .ok (.goto (-85), 3) := by decide +kernel
theorem dX12_works_214 : decode cX12_works 214 = .ok (.return_, 1) := by decide +kernel
theorem dX12_inState_0 : decode cX12_inState 0 = .ok (.iconst 0, 1) := by decide +kernel
theorem dX12_inState_1 : decode cX12_inState 1 = .ok (.istore_n 2, 1) := by decide +kernel
theorem dX12_inState_2 : decode cX12_inState 2 = .ok (.iconst 0, 1) := by decide +kernel
theorem dX12_inState_3 : decode cX12_inState 3 = .ok (.istore_n 3, 1) := by decide +kernel
theorem dX12_inState_4 : decode cX12_inState 4 = .ok (.iload_n 3, 1) := by decide +kernel
theorem dX12_inState_5 : decode cX12_inState 5 = .ok (.aload_n 0, 1) := by decide +kernel
theorem dX12_inState_6 : decode cX12_inState 6 = .ok (.getfield 86, 3) := by decide +kernel
theorem dX12_inState_9 : decode cX12_inState 9 = .ok (.sipush 752, 3) := by decide +kernel
theorem dX12_inState_12 : decode cX12_inState 12 = .ok (.iaload, 1) := by decide +kernel
theorem dX12_inState_13 : decode cX12_inState 13 = .ok (.if_icmp .ge 27, 3) := by decide +kernel
theorem dX12_inState_16 : decode cX12_inState 16 = .ok (.iload_n 2, 1) := by decide +kernel
theorem dX12_inState_17 : decode cX12_inState 17 = .ok (.aload_n 0, 1) := by decide +kernel
theorem dX12_inState_18 : decode cX12_inState 18 = .ok (.iload_n 3, 1) := by decide +kernel
theorem dX12_inState_19 : decode cX12_inState 19 = .ok (.iconst 0, 1) := by decide +kernel
theorem dX12_inState_20 : decode cX12_inState 20 = .ok (.invokevirtual 138, 3) := by decide +kernel
theorem dX12_inState_23 : decode cX12_inState 23 = .ok (.iload_n 1, 1) := by decide +kernel
theorem dX12_inState_24 : decode cX12_inState 24 = .ok (.if_icmp .ne 7, 3) := by decide +kernel
theorem dX12_inState_27 : decode cX12_inState 27 = .ok (.iconst 1, 1) := by decide +kernel
theorem dX12_inState_28 : decode cX12_inState 28 = .ok (.goto 4, 3) := by decide +kernel
theorem dX12_inState_31 : decode cX12_inState 31 = .ok (.iconst 0, 1) := by decide +kernel
theorem dX12_inState_32 : decode cX12_inState 32 = .ok (.iadd, 1) := by decide +kernel
theorem dX12_inState_33 : decode cX12_inState 33 = .ok (.istore_n 2, 1) := by decide +kernel
theorem dX12_inState_34 : decode cX12_inState 34 = .ok (.iinc 3 1, 3) := by decide +kernel
theorem dX12_inState_37 : decode cX12_inState 37 = .ok (.goto (-33), 3) := by decide +kernel
theorem dX12_inState_40 : decode cX12_inState 40 = .ok (.iload_n 2, 1) := by decide +kernel
theorem dX12_inState_41 : decode cX12_inState 41 = .ok (.ireturn, 1) := by decide +kernel
theorem dX12_hour_0 : decode cX12_hour 0 = .ok (.aload_n 0, 1) := by decide +kernel
theorem dX12_hour_1 : decode cX12_hour 1 = .ok (.getfield 86, 3) := by decide +kernel
theorem dX12_hour_4 : decode cX12_hour 4 = .ok (.sipush 751, 3) := by decide +kernel
theorem dX12_hour_7 : decode cX12_hour 7 = .ok (.iaload, 1) := by decide +kernel
theorem dX12_hour_8 : decode cX12_hour 8 = .ok (.bipush 24, 2) := by decide +kernel
theorem dX12_hour_10 : decode cX12_hour 10 = .ok (.idiv, 1) := by decide +kernel
theorem dX12_hour_11 : decode cX12_hour 11 = .ok (.istore_n 1, 1) := by decide +kernel
theorem dX12_hour_12 : decode cX12_hour 12 = .ok (.aload_n 0, 1) := by decide +kernel
theorem dX12_hour_13 : decode cX12_hour 13 = .ok (.getfield 86, 3) := by decide +kernel
theorem dX12_hour_16 : decode cX12_hour 16 = .ok (.sipush 751, 3) := by decide +kernel
theorem dX12_hour_19 : decode cX12_hour 19 = .ok (.dup2, 1) := by decide +kernel
theorem dX12_hour_20 : decode cX12_hour 20 = .ok (.iaload, 1) := by decide +kernel
theorem dX12_hour_21 : decode cX12_hour 21 = .ok (.iconst 1, 1) := by decide +kernel
theorem dX12_hour_22 : decode cX12_hour 22 = .ok (.iadd, 1) := by decide +kernel
theorem dX12_hour_23 : decode cX12_hour 23 = .ok (.iastore, 1) := by decide +kernel
theorem dX12_hour_24 : decode cX12_hour 24 = .ok (.aload_n 0, 1) := by decide +kernel
theorem dX12_hour_25 : decode cX12_hour 25 = .ok (.iload_n 1, 1) := by decide +kernel
theorem dX12_hour_26 : decode cX12_hour 26 = .ok (.iconst 2, 1) := by decide +kernel
theorem dX12_hour_27 : decode cX12_hour 27 = .ok (.invokevirtual 107, 3) := by decide +kernel
theorem dX12_hour_30 : decode cX12_hour 30 = .ok (.iconst 1, 1) := by decide +kernel
theorem dX12_hour_31 : decode cX12_hour 31 = .ok (.if_icmp .ne 7, 3) := by decide +kernel
theorem dX12_hour_34 : decode cX12_hour 34 = .ok (.iconst 1, 1) := by decide +kernel
theorem dX12_hour_35 : decode cX12_hour 35 = .ok (.goto 4, 3) := by decide +kernel
theorem dX12_hour_38 : decode cX12_hour 38 = .ok (.iconst 0, 1) := by decide +kernel
theorem dX12_hour_39 : decode cX12_hour 39 = .ok (.istore_n 2, 1) := by decide +kernel
theorem dX12_hour_40 : decode cX12_hour 40 = .ok (.iload_n 2, 1) := by decide +kernel
theorem dX12_hour_41 : decode cX12_hour 41 = .ok (.ifCond .eq 49, 3) := by decide +kernel
theorem dX12_hour_44 : decode cX12_hour 44 = .ok (.iconst 0, 1) := by decide +kernel
theorem dX12_hour_45 : decode cX12_hour 45 = .ok (.istore_n 3, 1) := by decide +kernel
theorem dX12_hour_46 : decode cX12_hour 46 = .ok (.iload_n 3, 1) := by decide +kernel
theorem dX12_hour_47 : decode cX12_hour 47 = .ok (.iconst 3, 1) := by decide +kernel
theorem dX12_hour_48 : decode cX12_hour 48 = .ok (.if_icmp .ge 39, 3) := by decide +kernel
theorem dX12_hour_51 : decode cX12_hour 51 = .ok (.aload_n 0, 1) := by decide +kernel
theorem dX12_hour_52 : decode cX12_hour 52 = .ok (.getfield 86, 3) := by decide +kernel
theorem dX12_hour_55 : decode cX12_hour 55 = .ok (.bipush 105, 2) := by decide +kernel
theorem dX12_hour_57 : decode cX12_hour 57 = .ok (.iconst 2, 1) := by decide +kernel
theorem dX12_hour_58 : decode cX12_hour 58 = .ok (.iload_n 3, 1) := by decide +kernel
theorem dX12_hour_59 : decode cX12_hour 59 = .ok (.imul, 1) := by decide +kernel
theorem dX12_hour_60 : decode cX12_hour 60 = .ok (.iadd, 1) := by decide +kernel
theorem dX12_hour_61 : decode cX12_hour 61 = .ok (.iconst 1, 1) := by decide +kernel
theorem dX12_hour_62 : decode cX12_hour 62 = .ok (.iadd, 1) := by decide +kernel
theorem dX12_hour_63 : decode cX12_hour 63 = .ok (.dup2, 1) := by decide +kernel
theorem dX12_hour_64 : decode cX12_hour 64 = .ok (.iaload, 1) := by decide +kernel
theorem dX12_hour_65 : decode cX12_hour 65 = .ok (.aload_n 0, 1) := by decide +kernel
theorem dX12_hour_66 : decode cX12_hour 66 = .ok (.getfield 49, 3) := by decide +kernel
theorem dX12_hour_69 : decode cX12_hour 69 = .ok (.iload_n 3, 1) := by decide +kernel
theorem dX12_hour_70 : decode cX12_hour 70 = .ok (.iaload, 1) := by decide +kernel
theorem dX12_hour_71 : decode cX12_hour 71 = .ok (.ifCond .ge 7, 3) := by decide +kernel
theorem dX12_hour_74 : decode cX12_hour 74 = .ok (.iconst 0, 1) := by decide +kernel
theorem dX12_hour_75 : decode cX12_hour 75 = .ok (.goto 4, 3) := by decide +kernel
theorem dX12_hour_78 : decode cX12_hour 78 = .ok (.iconst 1, 1) := by decide +kernel
theorem dX12_hour_79 : decode cX12_hour 79 = .ok (.iadd, 1) := by decide +kernel
theorem dX12_hour_80 : decode cX12_hour 80 = .ok (.iastore, 1) := by decide +kernel
theorem dX12_hour_81 : decode cX12_hour 81 = .ok (.iinc 3 1, 3) := by decide +kernel
theorem dX12_hour_84 : decode cX12_hour 84 = .ok (.goto (-38), 3) := by decide +kernel
theorem dX12_hour_87 : decode cX12_hour 87 = .ok (.goto 13, 3) := by decide +kernel
theorem dX12_hour_90 : decode cX12_hour 90 = .ok (.aload_n 0, 1) := by decide +kernel
theorem dX12_hour_91 : decode cX12_hour 91 = .ok (.aload_n 0, 1) := by decide +kernel
theorem dX12_hour_92 : decode cX12_hour 92 = .ok (.iload_n 1, 1) := by decide +kernel
theorem dX12_hour_93 : decode cX12_hour 93 = .ok (.iconst 0, 1) := by decide +kernel
theorem dX12_hour_94 : decode cX12_hour 94 = .ok (.invokevirtual 107, 3) := by decide +kernel
theorem dX12_hour_97 : decode cX12_hour 97 = .ok (.invokevirtual 190, 3) := by decide +kernel
theorem dX12_hour_100 : decode cX12_hour 100 = .ok (.aload_n 0, 1) := by decide +kernel
theorem dX12_hour_101 : decode cX12_hour 101 = .ok (.iconst 1, 1) := by decide +kernel
theorem dX12_hour_102 : decode cX12_hour 102 = .ok (.invokevirtual 193, 3) := by decide +kernel
theorem dX12_hour_105 : decode cX12_hour 105 = .ok (.istore_n 3, 1) := by decide +kernel
theorem dX12_hour_106 : decode cX12_hour 106 = .ok (.iconst 0, 1) := by decide +kernel
theorem dX12_hour_107 : decode cX12_hour 107 = .ok (.istore 4, 2) := by decide +kernel
theorem dX12_hour_109 : decode cX12_hour 109 = .ok (.iload 4, 2) := by decide +kernel
theorem dX12_hour_111 : decode cX12_hour 111 = .ok (.aload_n 0, 1) := by decide +kernel
theorem dX12_hour_112 : decode cX12_hour 112 = .ok (.getfield 86, 3) := by decide +kernel
theorem dX12_hour_115 : decode cX12_hour 115 = .ok (.sipush 752, 3) := by decide +kernel
theorem dX12_hour_118 : decode cX12_hour 118 = .ok (.iaload, 1) := by decide +kernel
theorem dX12_hour_119 : decode cX12_hour 119 = .ok (.if_icmp .ge 56, 3) := by decide +kernel
theorem dX12_hour_122 : decode cX12_hour 122 = .ok (.aload_n 0, 1) := by decide +kernel
theorem dX12_hour_123 : decode cX12_hour 123 = .ok (.iload 4, 2) := by decide +kernel
theorem dX12_hour_125 : decode cX12_hour 125 = .ok (.iconst 0, 1) := by decide +kernel
theorem dX12_hour_126 : decode cX12_hour 126 = .ok (.invokevirtual 138, 3) := by decide +kernel
theorem dX12_hour_129 : decode cX12_hour 129 = .ok (.ifCond .ne 40, 3) := by decide +kernel
theorem dX12_hour_132 : decode cX12_hour 132 = .ok (.iload_n 3, 1) := by decide +kernel
theorem dX12_hour_133 : decode cX12_hour 133 = .ok (.aload_n 0, 1) := by decide +kernel
theorem dX12_hour_134 : decode cX12_hour 134 = .ok (.getfield 55, 3) := by decide +kernel
theorem dX12_hour_137 : decode cX12_hour 137 = .ok (.if_icmp .lt 6, 3) := by decide +kernel
theorem dX12_hour_140 : decode cX12_hour 140 = .ok (.goto 29, 3) := by decide +kernel
theorem dX12_hour_143 : decode cX12_hour 143 = .ok (.aload_n 0, 1) := by decide +kernel
theorem dX12_hour_144 : decode cX12_hour 144 = .ok (.iload 4, 2) := by decide +kernel
theorem dX12_hour_146 : decode cX12_hour 146 = .ok (.iconst 0, 1) := by decide +kernel
theorem dX12_hour_147 : decode cX12_hour 147 = .ok (.iconst 1, 1) := by decide +kernel
theorem dX12_hour_148 : decode cX12_hour 148 = .ok (.invokevirtual 144, 3) := by decide +kernel
theorem dX12_hour_151 : decode cX12_hour 151 = .ok (.aload_n 0, 1) := by decide +kernel
theorem dX12_hour_152 : decode cX12_hour 152 = .ok (.iload 4, 2) := by decide +kernel
theorem dX12_hour_154 : decode cX12_hour 154 = .ok (.iconst 4, 1) := by decide +kernel
theorem dX12_hour_155 : decode cX12_hour 155 = .ok (.aload_n 0, 1) := by decide +kernel
theorem dX12_hour_156 : decode cX12_hour 156 = .ok (.getfield 86, 3) := by decide +kernel
theorem dX12_hour_159 : decode cX12_hour 159 = .ok (.sipush 751, 3) := by decide +kernel
theorem dX12_hour_162 : decode cX12_hour 162 = .ok (.iaload, 1) := by decide +kernel
theorem dX12_hour_163 : decode cX12_hour 163 = .ok (.invokevirtual 144, 3) := by decide +kernel
theorem dX12_hour_166 : decode cX12_hour 166 = .ok (.iinc 3 1, 3) := by decide +kernel
theorem dX12_hour_169 : decode cX12_hour 169 = .ok (.iinc 4 1, 3) := by decide +kernel
theorem dX12_hour_172 : decode cX12_hour 172 = .ok (.goto (-63), 3) := by decide +kernel
theorem dX12_hour_175 : decode cX12_hour 175 = .ok (.iload_n 2, 1) := by decide +kernel
theorem dX12_hour_176 : decode cX12_hour 176 = .ok (.ifCond .eq 7, 3) := by decide +kernel
theorem dX12_hour_179 : decode cX12_hour 179 = .ok (.iconst 0, 1) := by decide +kernel
theorem dX12_hour_180 : decode cX12_hour 180 = .ok (.goto 9, 3) := by decide +kernel
theorem dX12_hour_183 : decode cX12_hour 183 = .ok (.aload_n 0, 1) := by decide +kernel
theorem dX12_hour_184 : decode cX12_hour 184 = .ok (.iload_n 1, 1) := by decide +kernel
theorem dX12_hour_185 : decode cX12_hour 185 = .ok (.iconst 1, 1) := by decide +kernel
theorem dX12_hour_186 : decode cX12_hour 186 = .ok (.invokevirtual 107, 3) := by decide +kernel
theorem dX12_hour_189 : decode cX12_hour 189 = .ok (.istore 4, 2) := by decide +kernel
theorem dX12_hour_191 : decode cX12_hour 191 = .ok (.iconst 0, 1) := by decide +kernel
theorem dX12_hour_192 : decode cX12_hour 192 = .ok (.istore 5, 2) := by decide +kernel
theorem dX12_hour_194 : decode cX12_hour 194 = .ok (.iload 5, 2) := by decide +kernel
theorem dX12_hour_196 : decode cX12_hour 196 = .ok (.aload_n 0, 1) := by decide +kernel
theorem dX12_hour_197 : decode cX12_hour 197 = .ok (.getfield 86, 3) := by decide +kernel
theorem dX12_hour_200 : decode cX12_hour 200 = .ok (.sipush 752, 3) := by decide +kernel
theorem dX12_hour_203 : decode cX12_hour 203 = .ok (.iaload, 1) := by decide +kernel
theorem dX12_hour_204 : decode cX12_hour 204 = .ok (.if_icmp .ge 79, 3) := by decide +kernel
theorem dX12_hour_207 : decode cX12_hour 207 = .ok (.aload_n 0, 1) := by decide +kernel
theorem dX12_hour_208 : decode cX12_hour 208 = .ok (.iload 5, 2) := by decide +kernel
theorem dX12_hour_210 : decode cX12_hour 210 = .ok (.iconst 0, 1) := by decide +kernel
theorem dX12_hour_211 : decode cX12_hour 211 = .ok (.invokevirtual 138, 3) := by decide +kernel
theorem dX12_hour_214 : decode cX12_hour 214 = .ok (.iconst 1, 1) := by decide +kernel
theorem dX12_hour_215 : decode cX12_hour 215 = .ok (.if_icmp .eq 6, 3) := by decide +kernel
theorem dX12_hour_218 : decode cX12_hour 218 = .ok (.goto 59, 3) := by decide +kernel
theorem dX12_hour_221 : decode cX12_hour 221 = .ok (.aload_n 0, 1) := by decide +kernel
theorem dX12_hour_222 : decode cX12_hour 222 = .ok (.iload 5, 2) := by decide +kernel
theorem dX12_hour_224 : decode cX12_hour 224 = .ok (.iconst 5, 1) := by decide +kernel
theorem dX12_hour_225 : decode cX12_hour 225 = .ok (.aload_n 0, 1) := by decide +kernel
theorem dX12_hour_226 : decode cX12_hour 226 = .ok (.iload 5, 2) := by decide +kernel
theorem dX12_hour_228 : decode cX12_hour 228 = .ok (.iconst 5, 1) := by decide +kernel
theorem dX12_hour_229 : decode cX12_hour 229 = .ok (.invokevirtual 138, 3) := by decide +kernel
theorem dX12_hour_232 : decode cX12_hour 232 = .ok (.iload 4, 2) := by decide +kernel
theorem dX12_hour_234 : decode cX12_hour 234 = .ok (.iadd, 1) := by decide +kernel
theorem dX12_hour_235 : decode cX12_hour 235 = .ok (.invokevirtual 144, 3) := by decide +kernel
theorem dX12_hour_238 : decode cX12_hour 238 = .ok (.aload_n 0, 1) := by decide +kernel
theorem dX12_hour_239 : decode cX12_hour 239 = .ok (.iload 5, 2) := by decide +kernel
theorem dX12_hour_241 : decode cX12_hour 241 = .ok (.iconst 5, 1) := by decide +kernel
theorem dX12_hour_242 : decode cX12_hour 242 = .ok (.invokevirtual 138, 3) := by decide +kernel
theorem dX12_hour_245 : decode cX12_hour 245 = .ok (.bipush 40, 2) := by decide +kernel
theorem dX12_hour_247 : decode cX12_hour 247 = .ok (.if_icmp .ge 6, 3) := by decide +kernel
theorem dX12_hour_250 : decode cX12_hour 250 = .ok (.goto 27, 3) := by decide +kernel
theorem dX12_hour_253 : decode cX12_hour 253 = .ok (.aload_n 0, 1) := by decide +kernel
theorem dX12_hour_254 : decode cX12_hour 254 = .ok (.iload 5, 2) := by decide +kernel
theorem dX12_hour_256 : decode cX12_hour 256 = .ok (.iconst 0, 1) := by decide +kernel
theorem dX12_hour_257 : decode cX12_hour 257 = .ok (.iconst 2, 1) := by decide +kernel
theorem dX12_hour_258 : decode cX12_hour 258 = .ok (.invokevirtual 144, 3) := by decide +kernel
theorem dX12_hour_261 : decode cX12_hour 261 = .ok (.aload_n 0, 1) := by decide +kernel
theorem dX12_hour_262 : decode cX12_hour 262 = .ok (.iload 5, 2) := by decide +kernel
theorem dX12_hour_264 : decode cX12_hour 264 = .ok (.bipush 6, 2) := by decide +kernel
theorem dX12_hour_266 : decode cX12_hour 266 = .ok (.aload_n 0, 1) := by decide +kernel
theorem dX12_hour_267 : decode cX12_hour 267 = .ok (.getfield 86, 3) := by decide +kernel
theorem dX12_hour_270 : decode cX12_hour 270 = .ok (.sipush 751, 3) := by decide +kernel
theorem dX12_hour_273 : decode cX12_hour 273 = .ok (.iaload, 1) := by decide +kernel
theorem dX12_hour_274 : decode cX12_hour 274 = .ok (.invokevirtual 144, 3) := by decide +kernel
theorem dX12_hour_277 : decode cX12_hour 277 = .ok (.iinc 5 1, 3) := by decide +kernel
theorem dX12_hour_280 : decode cX12_hour 280 = .ok (.goto (-86), 3) := by decide +kernel
theorem dX12_hour_283 : decode cX12_hour 283 = .ok (.iconst 0, 1) := by decide +kernel
theorem dX12_hour_284 : decode cX12_hour 284 = .ok (.istore 5, 2) := by decide +kernel
theorem dX12_hour_286 : decode cX12_hour 286 = .ok (.iload 5, 2) := by decide +kernel
theorem dX12_hour_288 : decode cX12_hour 288 = .ok (.aload_n 0, 1) := by decide +kernel
end
section
theorem dX12_hour_289 : decode cX12_hour 289 = .ok (.getfield 115, 3) := by decide +kernel
theorem dX12_hour_292 : decode cX12_hour 292 = .ok (.if_icmp .ge 98, 3) := by decide +kernel
theorem dX12_hour_295 : decode cX12_hour 295 = .ok (.aload_n 0, 1) := by decide +kernel
theorem dX12_hour_296 : decode cX12_hour 296 = .ok (.iload 5, 2) := by decide +kernel
theorem dX12_hour_298 : decode cX12_hour 298 = .ok (.invokevirtual 118, 3) := by decide +kernel
theorem dX12_hour_301 : decode cX12_hour 301 = .ok (.aload_n 0, 1) := by decide +kernel
theorem dX12_hour_302 : decode cX12_hour 302 = .ok (.getfield 16, 3) := by decide +kernel
theorem dX12_hour_305 : decode cX12_hour 305 = .ok (.aload_n 0, 1) := by decide +kernel
theorem dX12_hour_306 : decode cX12_hour 306 = .ok (.getfield 34, 3) := by decide +kernel
theorem dX12_hour_309 : decode cX12_hour 309 = .ok (.iload 5, 2) := by decide +kernel
theorem dX12_hour_311 : decode cX12_hour 311 = .ok (.iaload, 1) := by decide +kernel
theorem dX12_hour_312 : decode cX12_hour 312 = .ok (.iaload, 1) := by decide +kernel
theorem dX12_hour_313 : decode cX12_hour 313 = .ok (.aload_n 0, 1) := by decide +kernel
theorem dX12_hour_314 : decode cX12_hour 314 = .ok (.getfield 19, 3) := by decide +kernel
theorem dX12_hour_317 : decode cX12_hour 317 = .ok (.aload_n 0, 1) := by decide +kernel
theorem dX12_hour_318 : decode cX12_hour 318 = .ok (.getfield 34, 3) := by decide +kernel
theorem dX12_hour_321 : decode cX12_hour 321 = .ok (.iload 5, 2) := by decide +kernel
theorem dX12_hour_323 : decode cX12_hour 323 = .ok (.iaload, 1) := by decide +kernel
theorem dX12_hour_324 : decode cX12_hour 324 = .ok (.iaload, 1) := by decide +kernel
theorem dX12_hour_325 : decode cX12_hour 325 = .ok (.iadd, 1) := by decide +kernel
theorem dX12_hour_326 : decode cX12_hour 326 = .ok (.if_icmp .gt 6, 3) := by decide +kernel
theorem dX12_hour_329 : decode cX12_hour 329 = .ok (.goto 55, 3) := by decide +kernel
theorem dX12_hour_332 : decode cX12_hour 332 = .ok (.aload_n 0, 1) := by decide +kernel
theorem dX12_hour_333 : decode cX12_hour 333 = .ok (.getfield 86, 3) := by decide +kernel
theorem dX12_hour_336 : decode cX12_hour 336 = .ok (.bipush 40, 2) := by decide +kernel
theorem dX12_hour_338 : decode cX12_hour 338 = .ok (.iload 5, 2) := by decide +kernel
theorem dX12_hour_340 : decode cX12_hour 340 = .ok (.iadd, 1) := by decide +kernel
theorem dX12_hour_341 : decode cX12_hour 341 = .ok (.dup2, 1) := by decide +kernel
theorem dX12_hour_342 : decode cX12_hour 342 = .ok (.iaload, 1) := by decide +kernel
theorem dX12_hour_343 : decode cX12_hour 343 = .ok (.aload_n 0, 1) := by decide +kernel
theorem dX12_hour_344 : decode cX12_hour 344 = .ok (.getfield 86, 3) := by decide +kernel
theorem dX12_hour_347 : decode cX12_hour 347 = .ok (.iconst 0, 1) := by decide +kernel
theorem dX12_hour_348 : decode cX12_hour 348 = .ok (.iload 5, 2) := by decide +kernel
theorem dX12_hour_350 : decode cX12_hour 350 = .ok (.iadd, 1) := by decide +kernel
theorem dX12_hour_351 : decode cX12_hour 351 = .ok (.iaload, 1) := by decide +kernel
theorem dX12_hour_352 : decode cX12_hour 352 = .ok (.iadd, 1) := by decide +kernel
theorem dX12_hour_353 : decode cX12_hour 353 = .ok (.iastore, 1) := by decide +kernel
theorem dX12_hour_354 : decode cX12_hour 354 = .ok (.aload_n 0, 1) := by decide +kernel
theorem dX12_hour_355 : decode cX12_hour 355 = .ok (.getfield 86, 3) := by decide +kernel
theorem dX12_hour_358 : decode cX12_hour 358 = .ok (.sipush 754, 3) := by decide +kernel
theorem dX12_hour_361 : decode cX12_hour 361 = .ok (.dup2, 1) := by decide +kernel
theorem dX12_hour_362 : decode cX12_hour 362 = .ok (.iaload, 1) := by decide +kernel
theorem dX12_hour_363 : decode cX12_hour 363 = .ok (.aload_n 0, 1) := by decide +kernel
theorem dX12_hour_364 : decode cX12_hour 364 = .ok (.getfield 86, 3) := by decide +kernel
theorem dX12_hour_367 : decode cX12_hour 367 = .ok (.iconst 0, 1) := by decide +kernel
theorem dX12_hour_368 : decode cX12_hour 368 = .ok (.iload 5, 2) := by decide +kernel
theorem dX12_hour_370 : decode cX12_hour 370 = .ok (.iadd, 1) := by decide +kernel
theorem dX12_hour_371 : decode cX12_hour 371 = .ok (.iaload, 1) := by decide +kernel
theorem dX12_hour_372 : decode cX12_hour 372 = .ok (.iadd, 1) := by decide +kernel
theorem dX12_hour_373 : decode cX12_hour 373 = .ok (.iastore, 1) := by decide +kernel
theorem dX12_hour_374 : decode cX12_hour 374 = .ok (.aload_n 0, 1) := by decide +kernel
theorem dX12_hour_375 : decode cX12_hour 375 = .ok (.getfield 86, 3) := by decide +kernel
theorem dX12_hour_378 : decode cX12_hour 378 = .ok (.iconst 0, 1) := by decide +kernel
theorem dX12_hour_379 : decode cX12_hour 379 = .ok (.iload 5, 2) := by decide +kernel
theorem dX12_hour_381 : decode cX12_hour 381 = .ok (.iadd, 1) := by decide +kernel
theorem dX12_hour_382 : decode cX12_hour 382 = .ok (.iconst 0, 1) := by decide +kernel
theorem dX12_hour_383 : decode cX12_hour 383 = .ok (.iastore, 1) := by decide +kernel
theorem dX12_hour_384 : decode cX12_hour 384 = .ok (.iinc 5 1, 3) := by decide +kernel
theorem dX12_hour_387 : decode cX12_hour 387 = .ok (.goto (-101), 3) := by decide +kernel
theorem dX12_hour_390 : decode cX12_hour 390 = .ok (.return_, 1) := by decide +kernel
theorem dX12_hours_0 : decode cX12_hours 0 = .ok (.iload_n 1, 1) := by decide +kernel
theorem dX12_hours_1 : decode cX12_hours 1 = .ok (.iconst 1, 1) := by decide +kernel
theorem dX12_hours_2 : decode cX12_hours 2 = .ok (.sipush 2400, 3) := by decide +kernel
theorem dX12_hours_5 : decode cX12_hours 5 = .ok (.aload_n 0, 1) := by decide +kernel
theorem dX12_hours_6 : decode cX12_hours 6 = .ok (.getfield 86, 3) := by decide +kernel
theorem dX12_hours_9 : decode cX12_hours 9 = .ok (.sipush 751, 3) := by decide +kernel
theorem dX12_hours_12 : decode cX12_hours 12 = .ok (.iaload, 1) := by decide +kernel
theorem dX12_hours_13 : decode cX12_hours 13 = .ok (.isub, 1) := by decide +kernel
theorem dX12_hours_14 : decode cX12_hours 14 = .ok (.invokestatic 99, 3) := by decide +kernel
theorem dX12_hours_17 : decode cX12_hours 17 = .ok (.istore_n 2, 1) := by decide +kernel
theorem dX12_hours_18 : decode cX12_hours 18 = .ok (.iload_n 2, 1) := by decide +kernel
theorem dX12_hours_19 : decode cX12_hours 19 = .ok (.ifCond .eq 9, 3) := by decide +kernel
theorem dX12_hours_22 : decode cX12_hours 22 = .ok (.aload_n 0, 1) := by decide +kernel
theorem dX12_hours_23 : decode cX12_hours 23 = .ok (.iload_n 2, 1) := by decide +kernel
theorem dX12_hours_24 : decode cX12_hours 24 = .ok (.invokevirtual 103, 3) := by decide +kernel
theorem dX12_hours_27 : decode cX12_hours 27 = .ok (.ireturn, 1) := by decide +kernel
theorem dX12_hours_28 : decode cX12_hours 28 = .ok (.aload_n 0, 1) := by decide +kernel
theorem dX12_hours_29 : decode cX12_hours 29 = .ok (.getfield 86, 3) := by decide +kernel
theorem dX12_hours_32 : decode cX12_hours 32 = .ok (.sipush 752, 3) := by decide +kernel
theorem dX12_hours_35 : decode cX12_hours 35 = .ok (.iaload, 1) := by decide +kernel
theorem dX12_hours_36 : decode cX12_hours 36 = .ok (.istore_n 3, 1) := by decide +kernel
theorem dX12_hours_37 : decode cX12_hours 37 = .ok (.iconst 0, 1) := by decide +kernel
theorem dX12_hours_38 : decode cX12_hours 38 = .ok (.istore 4, 2) := by decide +kernel
theorem dX12_hours_40 : decode cX12_hours 40 = .ok (.iload 4, 2) := by decide +kernel
theorem dX12_hours_42 : decode cX12_hours 42 = .ok (.iload_n 1, 1) := by decide +kernel
theorem dX12_hours_43 : decode cX12_hours 43 = .ok (.if_icmp .ge 13, 3) := by decide +kernel
theorem dX12_hours_46 : decode cX12_hours 46 = .ok (.aload_n 0, 1) := by decide +kernel
theorem dX12_hours_47 : decode cX12_hours 47 = .ok (.invokevirtual 196, 3) := by decide +kernel
theorem dX12_hours_50 : decode cX12_hours 50 = .ok (.iinc 4 1, 3) := by decide +kernel
theorem dX12_hours_53 : decode cX12_hours 53 = .ok (.goto (-13), 3) := by decide +kernel
theorem dX12_hours_56 : decode cX12_hours 56 = .ok (.aload_n 0, 1) := by decide +kernel
theorem dX12_hours_57 : decode cX12_hours 57 = .ok (.getfield 86, 3) := by decide +kernel
theorem dX12_hours_60 : decode cX12_hours 60 = .ok (.sipush 752, 3) := by decide +kernel
theorem dX12_hours_63 : decode cX12_hours 63 = .ok (.iaload, 1) := by decide +kernel
theorem dX12_hours_64 : decode cX12_hours 64 = .ok (.iload_n 3, 1) := by decide +kernel
theorem dX12_hours_65 : decode cX12_hours 65 = .ok (.isub, 1) := by decide +kernel
theorem dX12_hours_66 : decode cX12_hours 66 = .ok (.ireturn, 1) := by decide +kernel
theorem dX12_begins_0 : decode cX12_begins 0 = .ok (.iconst 0, 1) := by decide +kernel
theorem dX12_begins_1 : decode cX12_begins 1 = .ok (.istore_n 1, 1) := by decide +kernel
theorem dX12_begins_2 : decode cX12_begins 2 = .ok (.iload_n 1, 1) := by decide +kernel
theorem dX12_begins_3 : decode cX12_begins 3 = .ok (.sipush 755, 3) := by decide +kernel
theorem dX12_begins_6 : decode cX12_begins 6 = .ok (.if_icmp .ge 21, 3) := by decide +kernel
theorem dX12_begins_9 : decode cX12_begins 9 = .ok (.aload_n 0, 1) := by decide +kernel
theorem dX12_begins_10 : decode cX12_begins 10 = .ok (.getfield 89, 3) := by decide +kernel
theorem dX12_begins_13 : decode cX12_begins 13 = .ok (.iload_n 1, 1) := by decide +kernel
theorem dX12_begins_14 : decode cX12_begins 14 = .ok (.aload_n 0, 1) := by decide +kernel
theorem dX12_begins_15 : decode cX12_begins 15 = .ok (.getfield 86, 3) := by decide +kernel
theorem dX12_begins_18 : decode cX12_begins 18 = .ok (.iload_n 1, 1) := by decide +kernel
theorem dX12_begins_19 : decode cX12_begins 19 = .ok (.iaload, 1) := by decide +kernel
theorem dX12_begins_20 : decode cX12_begins 20 = .ok (.iastore, 1) := by decide +kernel
theorem dX12_begins_21 : decode cX12_begins 21 = .ok (.iinc 1 1, 3) := by decide +kernel
theorem dX12_begins_24 : decode cX12_begins 24 = .ok (.goto (-22), 3) := by decide +kernel
theorem dX12_begins_27 : decode cX12_begins 27 = .ok (.aload_n 0, 1) := by decide +kernel
theorem dX12_begins_28 : decode cX12_begins 28 = .ok (.iconst 1, 1) := by decide +kernel
theorem dX12_begins_29 : decode cX12_begins 29 = .ok (.putfield 176, 3) := by decide +kernel
theorem dX12_begins_32 : decode cX12_begins 32 = .ok (.return_, 1) := by decide +kernel
theorem dX12_ends_0 : decode cX12_ends 0 = .ok (.iconst 0, 1) := by decide +kernel
theorem dX12_ends_1 : decode cX12_ends 1 = .ok (.istore_n 1, 1) := by decide +kernel
theorem dX12_ends_2 : decode cX12_ends 2 = .ok (.iload_n 1, 1) := by decide +kernel
theorem dX12_ends_3 : decode cX12_ends 3 = .ok (.sipush 755, 3) := by decide +kernel
theorem dX12_ends_6 : decode cX12_ends 6 = .ok (.if_icmp .ge 21, 3) := by decide +kernel
theorem dX12_ends_9 : decode cX12_ends 9 = .ok (.aload_n 0, 1) := by decide +kernel
theorem dX12_ends_10 : decode cX12_ends 10 = .ok (.getfield 86, 3) := by decide +kernel
theorem dX12_ends_13 : decode cX12_ends 13 = .ok (.iload_n 1, 1) := by decide +kernel
theorem dX12_ends_14 : decode cX12_ends 14 = .ok (.aload_n 0, 1) := by decide +kernel
theorem dX12_ends_15 : decode cX12_ends 15 = .ok (.getfield 89, 3) := by decide +kernel
theorem dX12_ends_18 : decode cX12_ends 18 = .ok (.iload_n 1, 1) := by decide +kernel
theorem dX12_ends_19 : decode cX12_ends 19 = .ok (.iaload, 1) := by decide +kernel
theorem dX12_ends_20 : decode cX12_ends 20 = .ok (.iastore, 1) := by decide +kernel
theorem dX12_ends_21 : decode cX12_ends 21 = .ok (.iinc 1 1, 3) := by decide +kernel
theorem dX12_ends_24 : decode cX12_ends 24 = .ok (.goto (-22), 3) := by decide +kernel
theorem dX12_ends_27 : decode cX12_ends 27 = .ok (.aload_n 0, 1) := by decide +kernel
theorem dX12_ends_28 : decode cX12_ends 28 = .ok (.iconst 0, 1) := by decide +kernel
theorem dX12_ends_29 : decode cX12_ends 29 = .ok (.putfield 176, 3) := by decide +kernel
theorem dX12_ends_32 : decode cX12_ends 32 = .ok (.return_, 1) := by decide +kernel
theorem dX12_dried_0 : decode cX12_dried 0 = .ok (.aload_n 0, 1) := by decide +kernel
theorem dX12_dried_1 : decode cX12_dried 1 = .ok (.iconst 2, 1) := by decide +kernel
theorem dX12_dried_2 : decode cX12_dried 2 = .ok (.invokevirtual 193, 3) := by decide +kernel
theorem dX12_dried_5 : decode cX12_dried 5 = .ok (.aload_n 0, 1) := by decide +kernel
theorem dX12_dried_6 : decode cX12_dried 6 = .ok (.iconst 3, 1) := by decide +kernel
theorem dX12_dried_7 : decode cX12_dried 7 = .ok (.invokevirtual 193, 3) := by decide +kernel
theorem dX12_dried_10 : decode cX12_dried 10 = .ok (.iadd, 1) := by decide +kernel
theorem dX12_dried_11 : decode cX12_dried 11 = .ok (.ireturn, 1) := by decide +kernel
theorem dX12_foretell_0 : decode cX12_foretell 0 = .ok (.iload_n 2, 1) := by decide +kernel
theorem dX12_foretell_1 : decode cX12_foretell 1 = .ok (.iconst 5, 1) := by decide +kernel
theorem dX12_foretell_2 : decode cX12_foretell 2 = .ok (.invokestatic 95, 3) := by decide +kernel
theorem dX12_foretell_5 : decode cX12_foretell 5 = .ok (.ifCond .ne 8, 3) := by decide +kernel
theorem dX12_foretell_8 : decode cX12_foretell 8 = .ok (.bipush (-2), 2) := by decide +kernel
theorem dX12_foretell_10 : decode cX12_foretell 10 = .ok (.goto 26, 3) := by decide +kernel
theorem dX12_foretell_13 : decode cX12_foretell 13 = .ok (.iload_n 1, 1) := by decide +kernel
theorem dX12_foretell_14 : decode cX12_foretell 14 = .ok (.iconst 1, 1) := by decide +kernel
theorem dX12_foretell_15 : decode cX12_foretell 15 = .ok (.sipush 240, 3) := by decide +kernel
theorem dX12_foretell_18 : decode cX12_foretell 18 = .ok (.sipush 2400, 3) := by decide +kernel
theorem dX12_foretell_21 : decode cX12_foretell 21 = .ok (.aload_n 0, 1) := by decide +kernel
theorem dX12_foretell_22 : decode cX12_foretell 22 = .ok (.getfield 86, 3) := by decide +kernel
theorem dX12_foretell_25 : decode cX12_foretell 25 = .ok (.sipush 751, 3) := by decide +kernel
theorem dX12_foretell_28 : decode cX12_foretell 28 = .ok (.iaload, 1) := by decide +kernel
theorem dX12_foretell_29 : decode cX12_foretell 29 = .ok (.isub, 1) := by decide +kernel
theorem dX12_foretell_30 : decode cX12_foretell 30 = .ok (.invokestatic 124, 3) := by decide +kernel
theorem dX12_foretell_33 : decode cX12_foretell 33 = .ok (.invokestatic 99, 3) := by decide +kernel
theorem dX12_foretell_36 : decode cX12_foretell 36 = .ok (.istore_n 3, 1) := by decide +kernel
theorem dX12_foretell_37 : decode cX12_foretell 37 = .ok (.iload_n 3, 1) := by decide +kernel
theorem dX12_foretell_38 : decode cX12_foretell 38 = .ok (.ifCond .eq 9, 3) := by decide +kernel
theorem dX12_foretell_41 : decode cX12_foretell 41 = .ok (.aload_n 0, 1) := by decide +kernel
theorem dX12_foretell_42 : decode cX12_foretell 42 = .ok (.iload_n 3, 1) := by decide +kernel
theorem dX12_foretell_43 : decode cX12_foretell 43 = .ok (.invokevirtual 103, 3) := by decide +kernel
theorem dX12_foretell_46 : decode cX12_foretell 46 = .ok (.ireturn, 1) := by decide +kernel
theorem dX12_foretell_47 : decode cX12_foretell 47 = .ok (.aload_n 0, 1) := by decide +kernel
theorem dX12_foretell_48 : decode cX12_foretell 48 = .ok (.invokevirtual 199, 3) := by decide +kernel
theorem dX12_foretell_51 : decode cX12_foretell 51 = .ok (.iconst 0, 1) := by decide +kernel
theorem dX12_foretell_52 : decode cX12_foretell 52 = .ok (.istore 4, 2) := by decide +kernel
theorem dX12_foretell_54 : decode cX12_foretell 54 = .ok (.iload 4, 2) := by decide +kernel
theorem dX12_foretell_56 : decode cX12_foretell 56 = .ok (.iload_n 1, 1) := by decide +kernel
theorem dX12_foretell_57 : decode cX12_foretell 57 = .ok (.if_icmp .ge 13, 3) := by decide +kernel
theorem dX12_foretell_60 : decode cX12_foretell 60 = .ok (.aload_n 0, 1) := by decide +kernel
theorem dX12_foretell_61 : decode cX12_foretell 61 = .ok (.invokevirtual 196, 3) := by decide +kernel
theorem dX12_foretell_64 : decode cX12_foretell 64 = .ok (.iinc 4 1, 3) := by decide +kernel
theorem dX12_foretell_67 : decode cX12_foretell 67 = .ok (.goto (-13), 3) := by decide +kernel
theorem dX12_foretell_70 : decode cX12_foretell 70 = .ok (.iload_n 2, 1) := by decide +kernel
theorem dX12_foretell_71 : decode cX12_foretell 71 = .ok (.ifCond .ne 14, 3) := by decide +kernel
theorem dX12_foretell_74 : decode cX12_foretell 74 = .ok (.aload_n 0, 1) := by decide +kernel
theorem dX12_foretell_75 : decode cX12_foretell 75 = .ok (.getfield 86, 3) := by decide +kernel
theorem dX12_foretell_78 : decode cX12_foretell 78 = .ok (.sipush 752, 3) := by decide +kernel
theorem dX12_foretell_81 : decode cX12_foretell 81 = .ok (.iaload, 1) := by decide +kernel
theorem dX12_foretell_82 : decode cX12_foretell 82 = .ok (.goto 48, 3) := by decide +kernel
theorem dX12_foretell_85 : decode cX12_foretell 85 = .ok (.iload_n 2, 1) := by decide +kernel
theorem dX12_foretell_86 : decode cX12_foretell 86 = .ok (.iconst 1, 1) := by decide +kernel
theorem dX12_foretell_87 : decode cX12_foretell 87 = .ok (.if_icmp .ne 10, 3) := by decide +kernel
theorem dX12_foretell_90 : decode cX12_foretell 90 = .ok (.aload_n 0, 1) := by decide +kernel
theorem dX12_foretell_91 : decode cX12_foretell 91 = .ok (.invokevirtual 202, 3) := by decide +kernel
theorem dX12_foretell_94 : decode cX12_foretell 94 = .ok (.goto 36, 3) := by decide +kernel
theorem dX12_foretell_97 : decode cX12_foretell 97 = .ok (.iload_n 2, 1) := by decide +kernel
theorem dX12_foretell_98 : decode cX12_foretell 98 = .ok (.iconst 2, 1) := by decide +kernel
theorem dX12_foretell_99 : decode cX12_foretell 99 = .ok (.if_icmp .ne 14, 3) := by decide +kernel
theorem dX12_foretell_102 : decode cX12_foretell 102 = .ok (.aload_n 0, 1) := by decide +kernel
theorem dX12_foretell_103 : decode cX12_foretell 103 = .ok (.getfield 86, 3) := by decide +kernel
theorem dX12_foretell_106 : decode cX12_foretell 106 = .ok (.sipush 753, 3) := by decide +kernel
theorem dX12_foretell_109 : decode cX12_foretell 109 = .ok (.iaload, 1) := by decide +kernel
theorem dX12_foretell_110 : decode cX12_foretell 110 = .ok (.goto 20, 3) := by decide +kernel
theorem dX12_foretell_113 : decode cX12_foretell 113 = .ok (.iload_n 2, 1) := by decide +kernel
theorem dX12_foretell_114 : decode cX12_foretell 114 = .ok (.iconst 3, 1) := by decide +kernel
theorem dX12_foretell_115 : decode cX12_foretell 115 = .ok (.if_icmp .ne 14, 3) := by decide +kernel
theorem dX12_foretell_118 : decode cX12_foretell 118 = .ok (.aload_n 0, 1) := by decide +kernel
theorem dX12_foretell_119 : decode cX12_foretell 119 = .ok (.getfield 86, 3) := by decide +kernel
theorem dX12_foretell_122 : decode cX12_foretell 122 = .ok (.sipush 754, 3) := by decide +kernel
theorem dX12_foretell_125 : decode cX12_foretell 125 = .ok (.iaload, 1) := by decide +kernel
theorem dX12_foretell_126 : decode cX12_foretell 126 = .ok (.goto 4, 3) := by decide +kernel
theorem dX12_foretell_129 : decode cX12_foretell 129 = .ok (.iconst 0, 1) := by decide +kernel
theorem dX12_foretell_130 : decode cX12_foretell 130 = .ok (.istore 4, 2) := by decide +kernel
theorem dX12_foretell_132 : decode cX12_foretell 132 = .ok (.iconst 0, 1) := by decide +kernel
theorem dX12_foretell_133 : decode cX12_foretell 133 = .ok (.istore 5, 2) := by decide +kernel
theorem dX12_foretell_135 : decode cX12_foretell 135 = .ok (.iload 5, 2) := by decide +kernel
theorem dX12_foretell_137 : decode cX12_foretell 137 = .ok (.bipush 9, 2) := by decide +kernel
theorem dX12_foretell_139 : decode cX12_foretell 139 = .ok (.if_icmp .ge 29, 3) := by decide +kernel
theorem dX12_foretell_142 : decode cX12_foretell 142 = .ok (.iload_n 2, 1) := by decide +kernel
theorem dX12_foretell_143 : decode cX12_foretell 143 = .ok (.iconst 4, 1) := by decide +kernel
theorem dX12_foretell_144 : decode cX12_foretell 144 = .ok (.if_icmp .ne 24, 3) := by decide +kernel
theorem dX12_foretell_147 : decode cX12_foretell 147 = .ok (.iload 4, 2) := by decide +kernel
theorem dX12_foretell_149 : decode cX12_foretell 149 = .ok (.aload_n 0, 1) := by decide +kernel
theorem dX12_foretell_150 : decode cX12_foretell 150 = .ok (.getfield 86, 3) := by decide +kernel
theorem dX12_foretell_153 : decode cX12_foretell 153 = .ok (.bipush 96, 2) := by decide +kernel
theorem dX12_foretell_155 : decode cX12_foretell 155 = .ok (.iload 5, 2) := by decide +kernel
theorem dX12_foretell_157 : decode cX12_foretell 157 = .ok (.iadd, 1) := by decide +kernel
theorem dX12_foretell_158 : decode cX12_foretell 158 = .ok (.iaload, 1) := by decide +kernel
theorem dX12_foretell_159 : decode cX12_foretell 159 = .ok (.iadd, 1) := by decide +kernel
theorem dX12_foretell_160 : decode cX12_foretell 160 = .ok (.istore 4, 2) := by decide +kernel
theorem dX12_foretell_162 : decode cX12_foretell 162 = .ok (.iinc 5 1, 3) := by decide +kernel
theorem dX12_foretell_165 : decode cX12_foretell 165 = .ok (.goto (-30), 3) := by decide +kernel
theorem dX12_foretell_168 : decode cX12_foretell 168 = .ok (.aload_n 0, 1) := by decide +kernel
theorem dX12_foretell_169 : decode cX12_foretell 169 = .ok (.invokevirtual 205, 3) := by decide +kernel
theorem dX12_foretell_172 : decode cX12_foretell 172 = .ok (.iload 4, 2) := by decide +kernel
theorem dX12_foretell_174 : decode cX12_foretell 174 = .ok (.ireturn, 1) := by decide +kernel
theorem dX12_when_0 : decode cX12_when 0 = .ok (.iload_n 1, 1) := by decide +kernel
theorem dX12_when_1 : decode cX12_when 1 = .ok (.iconst 0, 1) := by decide +kernel
theorem dX12_when_2 : decode cX12_when 2 = .ok (.bipush 80, 2) := by decide +kernel
theorem dX12_when_4 : decode cX12_when 4 = .ok (.invokestatic 99, 3) := by decide +kernel
theorem dX12_when_7 : decode cX12_when 7 = .ok (.istore_n 2, 1) := by decide +kernel
theorem dX12_when_8 : decode cX12_when 8 = .ok (.iload_n 2, 1) := by decide +kernel
theorem dX12_when_9 : decode cX12_when 9 = .ok (.ifCond .eq 9, 3) := by decide +kernel
theorem dX12_when_12 : decode cX12_when 12 = .ok (.aload_n 0, 1) := by decide +kernel
theorem dX12_when_13 : decode cX12_when 13 = .ok (.iload_n 2, 1) := by decide +kernel
theorem dX12_when_14 : decode cX12_when 14 = .ok (.invokevirtual 103, 3) := by decide +kernel
theorem dX12_when_17 : decode cX12_when 17 = .ok (.ireturn, 1) := by decide +kernel
theorem dX12_when_18 : decode cX12_when 18 = .ok (.aload_n 0, 1) := by decide +kernel
theorem dX12_when_19 : decode cX12_when 19 = .ok (.invokevirtual 199, 3) := by decide +kernel
theorem dX12_when_22 : decode cX12_when 22 = .ok (.iconst 0, 1) := by decide +kernel
theorem dX12_when_23 : decode cX12_when 23 = .ok (.istore_n 3, 1) := by decide +kernel
theorem dX12_when_24 : decode cX12_when 24 = .ok (.iload_n 3, 1) := by decide +kernel
theorem dX12_when_25 : decode cX12_when 25 = .ok (.sipush 240, 3) := by decide +kernel
theorem dX12_when_28 : decode cX12_when 28 = .ok (.if_icmp .ge 35, 3) := by decide +kernel
theorem dX12_when_31 : decode cX12_when 31 = .ok (.aload_n 0, 1) := by decide +kernel
theorem dX12_when_32 : decode cX12_when 32 = .ok (.invokevirtual 202, 3) := by decide +kernel
theorem dX12_when_35 : decode cX12_when 35 = .ok (.iload_n 1, 1) := by decide +kernel
theorem dX12_when_36 : decode cX12_when 36 = .ok (.if_icmp .ge 27, 3) := by decide +kernel
theorem dX12_when_39 : decode cX12_when 39 = .ok (.aload_n 0, 1) := by decide +kernel
theorem dX12_when_40 : decode cX12_when 40 = .ok (.getfield 86, 3) := by decide +kernel
theorem dX12_when_43 : decode cX12_when 43 = .ok (.sipush 751, 3) := by decide +kernel
theorem dX12_when_46 : decode cX12_when 46 = .ok (.iaload, 1) := by decide +kernel
theorem dX12_when_47 : decode cX12_when 47 = .ok (.sipush 2400, 3) := by decide +kernel
theorem dX12_when_50 : decode cX12_when 50 = .ok (.if_icmp .ge 13, 3) := by decide +kernel
theorem dX12_when_53 : decode cX12_when 53 = .ok (.aload_n 0, 1) := by decide +kernel
theorem dX12_when_54 : decode cX12_when 54 = .ok (.invokevirtual 196, 3) := by decide +kernel
theorem dX12_when_57 : decode cX12_when 57 = .ok (.iinc 3 1, 3) := by decide +kernel
theorem dX12_when_60 : decode cX12_when 60 = .ok (.goto (-36), 3) := by decide +kernel
theorem dX12_when_63 : decode cX12_when 63 = .ok (.aload_n 0, 1) := by decide +kernel
theorem dX12_when_64 : decode cX12_when 64 = .ok (.invokevirtual 202, 3) := by decide +kernel
theorem dX12_when_67 : decode cX12_when 67 = .ok (.iload_n 1, 1) := by decide +kernel
theorem dX12_when_68 : decode cX12_when 68 = .ok (.if_icmp .lt 14, 3) := by decide +kernel
theorem dX12_when_71 : decode cX12_when 71 = .ok (.aload_n 0, 1) := by decide +kernel
theorem dX12_when_72 : decode cX12_when 72 = .ok (.getfield 86, 3) := by decide +kernel
theorem dX12_when_75 : decode cX12_when 75 = .ok (.sipush 751, 3) := by decide +kernel
theorem dX12_when_78 : decode cX12_when 78 = .ok (.iaload, 1) := by decide +kernel
theorem dX12_when_79 : decode cX12_when 79 = .ok (.goto 5, 3) := by decide +kernel
theorem dX12_when_82 : decode cX12_when 82 = .ok (.bipush (-9), 2) := by decide +kernel
theorem dX12_when_84 : decode cX12_when 84 = .ok (.istore_n 3, 1) := by decide +kernel
theorem dX12_when_85 : decode cX12_when 85 = .ok (.aload_n 0, 1) := by decide +kernel
theorem dX12_when_86 : decode cX12_when 86 = .ok (.invokevirtual 205, 3) := by decide +kernel
theorem dX12_when_89 : decode cX12_when 89 = .ok (.iload_n 3, 1) := by decide +kernel
theorem dX12_when_90 : decode cX12_when 90 = .ok (.ireturn, 1) := by decide +kernel
theorem dX12_mark_0 : decode cX12_mark 0 = .ok (.iload_n 1, 1) := by decide +kernel
theorem dX12_mark_1 : decode cX12_mark 1 = .ok (.aload_n 0, 1) := by decide +kernel
theorem dX12_mark_2 : decode cX12_mark 2 = .ok (.getfield 86, 3) := by decide +kernel
theorem dX12_mark_5 : decode cX12_mark 5 = .ok (.sipush 752, 3) := by decide +kernel
theorem dX12_mark_8 : decode cX12_mark 8 = .ok (.iaload, 1) := by decide +kernel
theorem dX12_mark_9 : decode cX12_mark 9 = .ok (.invokestatic 95, 3) := by decide +kernel
theorem dX12_mark_12 : decode cX12_mark 12 = .ok (.ifCond .eq 40, 3) := by decide +kernel
theorem dX12_mark_15 : decode cX12_mark 15 = .ok (.iload_n 2, 1) := by decide +kernel
theorem dX12_mark_16 : decode cX12_mark 16 = .ok (.bipush 60, 2) := by decide +kernel
theorem dX12_mark_18 : decode cX12_mark 18 = .ok (.invokestatic 95, 3) := by decide +kernel
theorem dX12_mark_21 : decode cX12_mark 21 = .ok (.ifCond .eq 31, 3) := by decide +kernel
theorem dX12_mark_24 : decode cX12_mark 24 = .ok (.iload_n 3, 1) := by decide +kernel
theorem dX12_mark_25 : decode cX12_mark 25 = .ok (.bipush 6, 2) := by decide +kernel
theorem dX12_mark_27 : decode cX12_mark 27 = .ok (.invokestatic 95, 3) := by decide +kernel
theorem dX12_mark_30 : decode cX12_mark 30 = .ok (.ifCond .eq 22, 3) := by decide +kernel
theorem dX12_mark_33 : decode cX12_mark 33 = .ok (.aload_n 0, 1) := by decide +kernel
theorem dX12_mark_34 : decode cX12_mark 34 = .ok (.getfield 77, 3) := by decide +kernel
theorem dX12_mark_37 : decode cX12_mark 37 = .ok (.bipush 6, 2) := by decide +kernel
theorem dX12_mark_39 : decode cX12_mark 39 = .ok (.bipush 60, 2) := by decide +kernel
theorem dX12_mark_41 : decode cX12_mark 41 = .ok (.iload_n 1, 1) := by decide +kernel
theorem dX12_mark_42 : decode cX12_mark 42 = .ok (.imul, 1) := by decide +kernel
theorem dX12_mark_43 : decode cX12_mark 43 = .ok (.iload_n 2, 1) := by decide +kernel
theorem dX12_mark_44 : decode cX12_mark 44 = .ok (.iadd, 1) := by decide +kernel
theorem dX12_mark_45 : decode cX12_mark 45 = .ok (.imul, 1) := by decide +kernel
theorem dX12_mark_46 : decode cX12_mark 46 = .ok (.iload_n 3, 1) := by decide +kernel
theorem dX12_mark_47 : decode cX12_mark 47 = .ok (.iadd, 1) := by decide +kernel
theorem dX12_mark_48 : decode cX12_mark 48 = .ok (.iaload, 1) := by decide +kernel
theorem dX12_mark_49 : decode cX12_mark 49 = .ok (.goto 8, 3) := by decide +kernel
theorem dX12_mark_52 : decode cX12_mark 52 = .ok (.aload_n 0, 1) := by decide +kernel
theorem dX12_mark_53 : decode cX12_mark 53 = .ok (.iconst (-1), 1) := by decide +kernel
theorem dX12_mark_54 : decode cX12_mark 54 = .ok (.invokevirtual 103, 3) := by decide +kernel
theorem dX12_mark_57 : decode cX12_mark 57 = .ok (.ireturn, 1) := by decide +kernel
theorem dX12_olds_0 : decode cX12_olds 0 = .ok (.iload_n 2, 1) := by decide +kernel
theorem dX12_olds_1 : decode cX12_olds 1 = .ok (.iconst (-1), 1) := by decide +kernel
theorem dX12_olds_2 : decode cX12_olds 2 = .ok (.if_icmp .lt 14, 3) := by decide +kernel
theorem dX12_olds_5 : decode cX12_olds 5 = .ok (.iload_n 3, 1) := by decide +kernel
theorem dX12_olds_6 : decode cX12_olds 6 = .ok (.iconst (-1), 1) := by decide +kernel
theorem dX12_olds_7 : decode cX12_olds 7 = .ok (.if_icmp .lt 9, 3) := by decide +kernel
theorem dX12_olds_10 : decode cX12_olds 10 = .ok (.iload 4, 2) := by decide +kernel
theorem dX12_olds_12 : decode cX12_olds 12 = .ok (.iconst (-1), 1) := by decide +kernel
theorem dX12_olds_13 : decode cX12_olds 13 = .ok (.if_icmp .ge 10, 3) := by decide +kernel
theorem dX12_olds_16 : decode cX12_olds 16 = .ok (.aload_n 0, 1) := by decide +kernel
theorem dX12_olds_17 : decode cX12_olds 17 = .ok (.bipush (-4), 2) := by decide +kernel
theorem dX12_olds_19 : decode cX12_olds 19 = .ok (.invokevirtual 103, 3) := by decide +kernel
theorem dX12_olds_22 : decode cX12_olds 22 = .ok (.ireturn, 1) := by decide +kernel
theorem dX12_olds_23 : decode cX12_olds 23 = .ok (.iload_n 2, 1) := by decide +kernel
theorem dX12_olds_24 : decode cX12_olds 24 = .ok (.bipush 99, 2) := by decide +kernel
theorem dX12_olds_26 : decode cX12_olds 26 = .ok (.if_icmp .gt 16, 3) := by decide +kernel
theorem dX12_olds_29 : decode cX12_olds 29 = .ok (.iload_n 3, 1) := by decide +kernel
theorem dX12_olds_30 : decode cX12_olds 30 = .ok (.bipush 99, 2) := by decide +kernel
theorem dX12_olds_32 : decode cX12_olds 32 = .ok (.if_icmp .gt 10, 3) := by decide +kernel
theorem dX12_olds_35 : decode cX12_olds 35 = .ok (.iload 4, 2) := by decide +kernel
theorem dX12_olds_37 : decode cX12_olds 37 = .ok (.bipush 99, 2) := by decide +kernel
theorem dX12_olds_39 : decode cX12_olds 39 = .ok (.if_icmp .le 10, 3) := by decide +kernel
theorem dX12_olds_42 : decode cX12_olds 42 = .ok (.aload_n 0, 1) := by decide +kernel
theorem dX12_olds_43 : decode cX12_olds 43 = .ok (.bipush (-6), 2) := by decide +kernel
theorem dX12_olds_45 : decode cX12_olds 45 = .ok (.invokevirtual 103, 3) := by decide +kernel
theorem dX12_olds_48 : decode cX12_olds 48 = .ok (.ireturn, 1) := by decide +kernel
theorem dX12_olds_49 : decode cX12_olds 49 = .ok (.aload_n 0, 1) := by decide +kernel
theorem dX12_olds_50 : decode cX12_olds 50 = .ok (.getfield 83, 3) := by decide +kernel
theorem dX12_olds_53 : decode cX12_olds 53 = .ok (.iload_n 1, 1) := by decide +kernel
theorem dX12_olds_54 : decode cX12_olds 54 = .ok (.iload_n 2, 1) := by decide +kernel
theorem dX12_olds_55 : decode cX12_olds 55 = .ok (.iastore, 1) := by decide +kernel
theorem dX12_olds_56 : decode cX12_olds 56 = .ok (.aload_n 0, 1) := by decide +kernel
theorem dX12_olds_57 : decode cX12_olds 57 = .ok (.getfield 83, 3) := by decide +kernel
theorem dX12_olds_60 : decode cX12_olds 60 = .ok (.iload_n 1, 1) := by decide +kernel
theorem dX12_olds_61 : decode cX12_olds 61 = .ok (.iconst 1, 1) := by decide +kernel
theorem dX12_olds_62 : decode cX12_olds 62 = .ok (.iadd, 1) := by decide +kernel
theorem dX12_olds_63 : decode cX12_olds 63 = .ok (.iload_n 3, 1) := by decide +kernel
theorem dX12_olds_64 : decode cX12_olds 64 = .ok (.iastore, 1) := by decide +kernel
theorem dX12_olds_65 : decode cX12_olds 65 = .ok (.aload_n 0, 1) := by decide +kernel
theorem dX12_olds_66 : decode cX12_olds 66 = .ok (.getfield 83, 3) := by decide +kernel
theorem dX12_olds_69 : decode cX12_olds 69 = .ok (.iload_n 1, 1) := by decide +kernel
theorem dX12_olds_70 : decode cX12_olds 70 = .ok (.iconst 2, 1) := by decide +kernel
theorem dX12_olds_71 : decode cX12_olds 71 = .ok (.iadd, 1) := by decide +kernel
theorem dX12_olds_72 : decode cX12_olds 72 = .ok (.iload 4, 2) := by decide +kernel
theorem dX12_olds_74 : decode cX12_olds 74 = .ok (.iastore, 1) := by decide +kernel
theorem dX12_olds_75 : decode cX12_olds 75 = .ok (.iconst 1, 1) := by decide +kernel
theorem dX12_olds_76 : decode cX12_olds 76 = .ok (.ireturn, 1) := by decide +kernel
theorem dX12_oldA_0 : decode cX12_oldA 0 = .ok (.aload_n 0, 1) := by decide +kernel
theorem dX12_oldA_1 : decode cX12_oldA 1 = .ok (.iconst 0, 1) := by decide +kernel
theorem dX12_oldA_2 : decode cX12_oldA 2 = .ok (.iload_n 1, 1) := by decide +kernel
theorem dX12_oldA_3 : decode cX12_oldA 3 = .ok (.iload_n 2, 1) := by decide +kernel
theorem dX12_oldA_4 : decode cX12_oldA 4 = .ok (.iload_n 3, 1) := by decide +kernel
theorem dX12_oldA_5 : decode cX12_oldA 5 = .ok (.invokevirtual 208, 3) := by decide +kernel
theorem dX12_oldA_8 : decode cX12_oldA 8 = .ok (.ireturn, 1) := by decide +kernel
theorem dX12_oldB_0 : decode cX12_oldB 0 = .ok (.aload_n 0, 1) := by decide +kernel
theorem dX12_oldB_1 : decode cX12_oldB 1 = .ok (.iconst 3, 1) := by decide +kernel
theorem dX12_oldB_2 : decode cX12_oldB 2 = .ok (.iload_n 1, 1) := by decide +kernel
theorem dX12_oldB_3 : decode cX12_oldB 3 = .ok (.iload_n 2, 1) := by decide +kernel
theorem dX12_oldB_4 : decode cX12_oldB 4 = .ok (.iload_n 3, 1) := by decide +kernel
theorem dX12_oldB_5 : decode cX12_oldB 5 = .ok (.invokevirtual 208, 3) := by decide +kernel
theorem dX12_oldB_8 : decode cX12_oldB 8 = .ok (.ireturn, 1) := by decide +kernel
theorem dX12_far_0 : decode cX12_far 0 = .ok (.aload_n 0, 1) := by decide +kernel
theorem dX12_far_1 : decode cX12_far 1 = .ok (.getfield 83, 3) := by decide +kernel
theorem dX12_far_4 : decode cX12_far 4 = .ok (.iload_n 2, 1) := by decide +kernel
theorem dX12_far_5 : decode cX12_far 5 = .ok (.iaload, 1) := by decide +kernel
theorem dX12_far_6 : decode cX12_far 6 = .ok (.ifCond .ge 7, 3) := by decide +kernel
theorem dX12_far_9 : decode cX12_far 9 = .ok (.iconst 0, 1) := by decide +kernel
theorem dX12_far_10 : decode cX12_far 10 = .ok (.goto 24, 3) := by decide +kernel
theorem dX12_far_13 : decode cX12_far 13 = .ok (.aload_n 0, 1) := by decide +kernel
theorem dX12_far_14 : decode cX12_far 14 = .ok (.getfield 83, 3) := by decide +kernel
theorem dX12_far_17 : decode cX12_far 17 = .ok (.iload_n 2, 1) := by decide +kernel
theorem dX12_far_18 : decode cX12_far 18 = .ok (.iaload, 1) := by decide +kernel
theorem dX12_far_19 : decode cX12_far 19 = .ok (.aload_n 0, 1) := by decide +kernel
theorem dX12_far_20 : decode cX12_far 20 = .ok (.getfield 77, 3) := by decide +kernel
theorem dX12_far_23 : decode cX12_far 23 = .ok (.bipush 6, 2) := by decide +kernel
theorem dX12_far_25 : decode cX12_far 25 = .ok (.iload_n 1, 1) := by decide +kernel
theorem dX12_far_26 : decode cX12_far 26 = .ok (.imul, 1) := by decide +kernel
theorem dX12_far_27 : decode cX12_far 27 = .ok (.iload_n 2, 1) := by decide +kernel
theorem dX12_far_28 : decode cX12_far 28 = .ok (.iadd, 1) := by decide +kernel
theorem dX12_far_29 : decode cX12_far 29 = .ok (.iaload, 1) := by decide +kernel
theorem dX12_far_30 : decode cX12_far 30 = .ok (.isub, 1) := by decide +kernel
theorem dX12_far_31 : decode cX12_far 31 = .ok (.invokestatic 212, 3) := by decide +kernel
theorem dX12_far_34 : decode cX12_far 34 = .ok (.ireturn, 1) := by decide +kernel
theorem dX12_isBy_0 : decode cX12_isBy 0 = .ok (.iconst 1, 1) := by decide +kernel
theorem dX12_isBy_1 : decode cX12_isBy 1 = .ok (.istore_n 3, 1) := by decide +kernel
theorem dX12_isBy_2 : decode cX12_isBy 2 = .ok (.iconst 0, 1) := by decide +kernel
theorem dX12_isBy_3 : decode cX12_isBy 3 = .ok (.istore 4, 2) := by decide +kernel
theorem dX12_isBy_5 : decode cX12_isBy 5 = .ok (.iload 4, 2) := by decide +kernel
theorem dX12_isBy_7 : decode cX12_isBy 7 = .ok (.bipush 6, 2) := by decide +kernel
theorem dX12_isBy_9 : decode cX12_isBy 9 = .ok (.if_icmp .ge 30, 3) := by decide +kernel
theorem dX12_isBy_12 : decode cX12_isBy 12 = .ok (.iload_n 3, 1) := by decide +kernel
theorem dX12_isBy_13 : decode cX12_isBy 13 = .ok (.ifCond .eq 18, 3) := by decide +kernel
theorem dX12_isBy_16 : decode cX12_isBy 16 = .ok (.aload_n 0, 1) := by decide +kernel
theorem dX12_isBy_17 : decode cX12_isBy 17 = .ok (.iload_n 1, 1) := by decide +kernel
theorem dX12_isBy_18 : decode cX12_isBy 18 = .ok (.iload 4, 2) := by decide +kernel
theorem dX12_isBy_20 : decode cX12_isBy 20 = .ok (.invokevirtual 215, 3) := by decide +kernel
theorem dX12_isBy_23 : decode cX12_isBy 23 = .ok (.iload_n 2, 1) := by decide +kernel
theorem dX12_isBy_24 : decode cX12_isBy 24 = .ok (.if_icmp .gt 7, 3) := by decide +kernel
theorem dX12_isBy_27 : decode cX12_isBy 27 = .ok (.iconst 1, 1) := by decide +kernel
theorem dX12_isBy_28 : decode cX12_isBy 28 = .ok (.goto 4, 3) := by decide +kernel
theorem dX12_isBy_31 : decode cX12_isBy 31 = .ok (.iconst 0, 1) := by decide +kernel
theorem dX12_isBy_32 : decode cX12_isBy 32 = .ok (.istore_n 3, 1) := by decide +kernel
theorem dX12_isBy_33 : decode cX12_isBy 33 = .ok (.iinc 4 1, 3) := by decide +kernel
theorem dX12_isBy_36 : decode cX12_isBy 36 = .ok (.goto (-31), 3) := by decide +kernel
theorem dX12_isBy_39 : decode cX12_isBy 39 = .ok (.iload_n 3, 1) := by decide +kernel
theorem dX12_isBy_40 : decode cX12_isBy 40 = .ok (.ireturn, 1) := by decide +kernel
theorem dX12_lies_0 : decode cX12_lies 0 = .ok (.iload_n 1, 1) := by decide +kernel
theorem dX12_lies_1 : decode cX12_lies 1 = .ok (.iconst 0, 1) := by decide +kernel
theorem dX12_lies_2 : decode cX12_lies 2 = .ok (.bipush 99, 2) := by decide +kernel
theorem dX12_lies_4 : decode cX12_lies 4 = .ok (.invokestatic 99, 3) := by decide +kernel
theorem dX12_lies_7 : decode cX12_lies 7 = .ok (.istore_n 2, 1) := by decide +kernel
theorem dX12_lies_8 : decode cX12_lies 8 = .ok (.iload_n 2, 1) := by decide +kernel
theorem dX12_lies_9 : decode cX12_lies 9 = .ok (.ifCond .eq 9, 3) := by decide +kernel
theorem dX12_lies_12 : decode cX12_lies 12 = .ok (.aload_n 0, 1) := by decide +kernel
theorem dX12_lies_13 : decode cX12_lies 13 = .ok (.iload_n 2, 1) := by decide +kernel
theorem dX12_lies_14 : decode cX12_lies 14 = .ok (.invokevirtual 103, 3) := by decide +kernel
theorem dX12_lies_17 : decode cX12_lies 17 = .ok (.ireturn, 1) := by decide +kernel
theorem dX12_lies_18 : decode cX12_lies 18 = .ok (.iconst 0, 1) := by decide +kernel
theorem dX12_lies_19 : decode cX12_lies 19 = .ok (.istore_n 3, 1) := by decide +kernel
theorem dX12_lies_20 : decode cX12_lies 20 = .ok (.iconst 0, 1) := by decide +kernel
theorem dX12_lies_21 : decode cX12_lies 21 = .ok (.istore 4, 2) := by decide +kernel
theorem dX12_lies_23 : decode cX12_lies 23 = .ok (.iload 4, 2) := by decide +kernel
theorem dX12_lies_25 : decode cX12_lies 25 = .ok (.bipush 60, 2) := by decide +kernel
theorem dX12_lies_27 : decode cX12_lies 27 = .ok (.aload_n 0, 1) := by decide +kernel
theorem dX12_lies_28 : decode cX12_lies 28 = .ok (.getfield 86, 3) := by decide +kernel
theorem dX12_lies_31 : decode cX12_lies 31 = .ok (.sipush 752, 3) := by decide +kernel
theorem dX12_lies_34 : decode cX12_lies 34 = .ok (.iaload, 1) := by decide +kernel
theorem dX12_lies_35 : decode cX12_lies 35 = .ok (.imul, 1) := by decide +kernel
theorem dX12_lies_36 : decode cX12_lies 36 = .ok (.if_icmp .ge 27, 3) := by decide +kernel
theorem dX12_lies_39 : decode cX12_lies 39 = .ok (.iload_n 3, 1) := by decide +kernel
theorem dX12_lies_40 : decode cX12_lies 40 = .ok (.aload_n 0, 1) := by decide +kernel
theorem dX12_lies_41 : decode cX12_lies 41 = .ok (.iload 4, 2) := by decide +kernel
theorem dX12_lies_43 : decode cX12_lies 43 = .ok (.iload_n 1, 1) := by decide +kernel
theorem dX12_lies_44 : decode cX12_lies 44 = .ok (.invokevirtual 218, 3) := by decide +kernel
theorem dX12_lies_47 : decode cX12_lies 47 = .ok (.ifCond .eq 7, 3) := by decide +kernel
theorem dX12_lies_50 : decode cX12_lies 50 = .ok (.iconst 1, 1) := by decide +kernel
theorem dX12_lies_51 : decode cX12_lies 51 = .ok (.goto 4, 3) := by decide +kernel
theorem dX12_lies_54 : decode cX12_lies 54 = .ok (.iconst 0, 1) := by decide +kernel
theorem dX12_lies_55 : decode cX12_lies 55 = .ok (.iadd, 1) := by decide +kernel
theorem dX12_lies_56 : decode cX12_lies 56 = .ok (.istore_n 3, 1) := by decide +kernel
theorem dX12_lies_57 : decode cX12_lies 57 = .ok (.iinc 4 1, 3) := by decide +kernel
theorem dX12_lies_60 : decode cX12_lies 60 = .ok (.goto (-37), 3) := by decide +kernel
theorem dX12_lies_63 : decode cX12_lies 63 = .ok (.iload_n 3, 1) := by decide +kernel
theorem dX12_lies_64 : decode cX12_lies 64 = .ok (.ireturn, 1) := by decide +kernel
theorem dX12_mouldOfSheet_0 : decode cX12_mouldOfSheet 0 = .ok (.iconst 2, 1) := by decide +kernel
theorem dX12_mouldOfSheet_1 : decode cX12_mouldOfSheet 1 = .ok (.aload_n 0, 1) := by decide +kernel
theorem dX12_mouldOfSheet_2 : decode cX12_mouldOfSheet 2 = .ok (.iload_n 1, 1) := by decide +kernel
theorem dX12_mouldOfSheet_3 : decode cX12_mouldOfSheet 3 = .ok (.bipush 60, 2) := by decide +kernel
theorem dX12_mouldOfSheet_5 : decode cX12_mouldOfSheet 5 = .ok (.idiv, 1) := by decide +kernel
theorem dX12_mouldOfSheet_6 : decode cX12_mouldOfSheet 6 = .ok (.iconst 1, 1) := by decide +kernel
theorem dX12_mouldOfSheet_7 : decode cX12_mouldOfSheet 7 = .ok (.invokevirtual 138, 3) := by decide +kernel
theorem dX12_mouldOfSheet_10 : decode cX12_mouldOfSheet 10 = .ok (.imul, 1) := by decide +kernel
theorem dX12_mouldOfSheet_11 : decode cX12_mouldOfSheet 11 = .ok (.iload_n 1, 1) := by decide +kernel
theorem dX12_mouldOfSheet_12 : decode cX12_mouldOfSheet 12 = .ok (.iconst 2, 1) := by decide +kernel
theorem dX12_mouldOfSheet_13 : decode cX12_mouldOfSheet 13 = .ok (.irem, 1) := by decide +kernel
theorem dX12_mouldOfSheet_14 : decode cX12_mouldOfSheet 14 = .ok (.iadd, 1) := by decide +kernel
theorem dX12_mouldOfSheet_15 : decode cX12_mouldOfSheet 15 = .ok (.ireturn, 1) := by decide +kernel
theorem dX12_nearest_0 : decode cX12_nearest 0 = .ok (.iload_n 1, 1) := by decide +kernel
theorem dX12_nearest_1 : decode cX12_nearest 1 = .ok (.iconst 5, 1) := by decide +kernel
theorem dX12_nearest_2 : decode cX12_nearest 2 = .ok (.invokestatic 95, 3) := by decide +kernel
theorem dX12_nearest_5 : decode cX12_nearest 5 = .ok (.ifCond .ne 10, 3) := by decide +kernel
theorem dX12_nearest_8 : decode cX12_nearest 8 = .ok (.aload_n 0, 1) := by decide +kernel
theorem dX12_nearest_9 : decode cX12_nearest 9 = .ok (.bipush (-2), 2) := by decide +kernel
theorem dX12_nearest_11 : decode cX12_nearest 11 = .ok (.invokevirtual 103, 3) := by decide +kernel
theorem dX12_nearest_14 : decode cX12_nearest 14 = .ok (.ireturn, 1) := by decide +kernel
theorem dX12_nearest_15 : decode cX12_nearest 15 = .ok (.iconst (-1), 1) := by decide +kernel
theorem dX12_nearest_16 : decode cX12_nearest 16 = .ok (.istore_n 2, 1) := by decide +kernel
theorem dX12_nearest_17 : decode cX12_nearest 17 = .ok (.iconst 0, 1) := by decide +kernel
theorem dX12_nearest_18 : decode cX12_nearest 18 = .ok (.istore_n 3, 1) := by decide +kernel
theorem dX12_nearest_19 : decode cX12_nearest 19 = .ok (.iconst 0, 1) := by decide +kernel
theorem dX12_nearest_20 : decode cX12_nearest 20 = .ok (.istore 4, 2) := by decide +kernel
theorem dX12_nearest_22 : decode cX12_nearest 22 = .ok (.iload 4, 2) := by decide +kernel
theorem dX12_nearest_24 : decode cX12_nearest 24 = .ok (.bipush 60, 2) := by decide +kernel
theorem dX12_nearest_26 : decode cX12_nearest 26 = .ok (.aload_n 0, 1) := by decide +kernel
theorem dX12_nearest_27 : decode cX12_nearest 27 = .ok (.getfield 86, 3) := by decide +kernel
theorem dX12_nearest_30 : decode cX12_nearest 30 = .ok (.sipush 752, 3) := by decide +kernel
theorem dX12_nearest_33 : decode cX12_nearest 33 = .ok (.iaload, 1) := by decide +kernel
theorem dX12_nearest_34 : decode cX12_nearest 34 = .ok (.imul, 1) := by decide +kernel
theorem dX12_nearest_35 : decode cX12_nearest 35 = .ok (.if_icmp .ge 60, 3) := by decide +kernel
theorem dX12_nearest_38 : decode cX12_nearest 38 = .ok (.iconst 0, 1) := by decide +kernel
theorem dX12_nearest_39 : decode cX12_nearest 39 = .ok (.istore 5, 2) := by decide +kernel
theorem dX12_nearest_41 : decode cX12_nearest 41 = .ok (.iconst 0, 1) := by decide +kernel
theorem dX12_nearest_42 : decode cX12_nearest 42 = .ok (.istore 6, 2) := by decide +kernel
theorem dX12_nearest_44 : decode cX12_nearest 44 = .ok (.iload 6, 2) := by decide +kernel
theorem dX12_nearest_46 : decode cX12_nearest 46 = .ok (.bipush 6, 2) := by decide +kernel
theorem dX12_nearest_48 : decode cX12_nearest 48 = .ok (.if_icmp .ge 22, 3) := by decide +kernel
theorem dX12_nearest_51 : decode cX12_nearest 51 = .ok (.iload 5, 2) := by decide +kernel
theorem dX12_nearest_53 : decode cX12_nearest 53 = .ok (.aload_n 0, 1) := by decide +kernel
theorem dX12_nearest_54 : decode cX12_nearest 54 = .ok (.iload 4, 2) := by decide +kernel
theorem dX12_nearest_56 : decode cX12_nearest 56 = .ok (.iload 6, 2) := by decide +kernel
theorem dX12_nearest_58 : decode cX12_nearest 58 = .ok (.invokevirtual 215, 3) := by decide +kernel
theorem dX12_nearest_61 : decode cX12_nearest 61 = .ok (.iadd, 1) := by decide +kernel
theorem dX12_nearest_62 : decode cX12_nearest 62 = .ok (.istore 5, 2) := by decide +kernel
theorem dX12_nearest_64 : decode cX12_nearest 64 = .ok (.iinc 6 1, 3) := by decide +kernel
theorem dX12_nearest_67 : decode cX12_nearest 67 = .ok (.goto (-23), 3) := by decide +kernel
theorem dX12_nearest_70 : decode cX12_nearest 70 = .ok (.iload_n 2, 1) := by decide +kernel
theorem dX12_nearest_71 : decode cX12_nearest 71 = .ok (.ifCond .lt 12, 3) := by decide +kernel
theorem dX12_nearest_74 : decode cX12_nearest 74 = .ok (.iload 5, 2) := by decide +kernel
theorem dX12_nearest_76 : decode cX12_nearest 76 = .ok (.iload_n 3, 1) := by decide +kernel
theorem dX12_nearest_77 : decode cX12_nearest 77 = .ok (.if_icmp .lt 6, 3) := by decide +kernel
theorem dX12_nearest_80 : decode cX12_nearest 80 = .ok (.goto 9, 3) := by decide +kernel
theorem dX12_nearest_83 : decode cX12_nearest 83 = .ok (.iload 4, 2) := by decide +kernel
theorem dX12_nearest_85 : decode cX12_nearest 85 = .ok (.istore_n 2, 1) := by decide +kernel
theorem dX12_nearest_86 : decode cX12_nearest 86 = .ok (.iload 5, 2) := by decide +kernel
theorem dX12_nearest_88 : decode cX12_nearest 88 = .ok (.istore_n 3, 1) := by decide +kernel
theorem dX12_nearest_89 : decode cX12_nearest 89 = .ok (.iinc 4 1, 3) := by decide +kernel
theorem dX12_nearest_92 : decode cX12_nearest 92 = .ok (.goto (-70), 3) := by decide +kernel
theorem dX12_nearest_95 : decode cX12_nearest 95 = .ok (.iload_n 2, 1) := by decide +kernel
theorem dX12_nearest_96 : decode cX12_nearest 96 = .ok (.ifCond .ge 6, 3) := by decide +kernel
theorem dX12_nearest_99 : decode cX12_nearest 99 = .ok (.bipush (-9), 2) := by decide +kernel
theorem dX12_nearest_101 : decode cX12_nearest 101 = .ok (.ireturn, 1) := by decide +kernel
theorem dX12_nearest_102 : decode cX12_nearest 102 = .ok (.iload_n 1, 1) := by decide +kernel
theorem dX12_nearest_103 : decode cX12_nearest 103 = .ok (.tableswitch 47 0 3 #[29, 34, 39, 45], 29) := by decide +kernel
theorem dX12_nearest_132 : decode cX12_nearest 132 = .ok (.iload_n 2, 1) := by decide +kernel
theorem dX12_nearest_133 : decode cX12_nearest 133 = .ok (.bipush 60, 2) := by decide +kernel
theorem dX12_nearest_135 : decode cX12_nearest 135 = .ok (.idiv, 1) := by decide +kernel
theorem dX12_nearest_136 : decode cX12_nearest 136 = .ok (.ireturn, 1) := by decide +kernel
theorem dX12_nearest_137 : decode cX12_nearest 137 = .ok (.iload_n 2, 1) := by decide +kernel
theorem dX12_nearest_138 : decode cX12_nearest 138 = .ok (.bipush 60, 2) := by decide +kernel
theorem dX12_nearest_140 : decode cX12_nearest 140 = .ok (.irem, 1) := by decide +kernel
theorem dX12_nearest_141 : decode cX12_nearest 141 = .ok (.ireturn, 1) := by decide +kernel
theorem dX12_nearest_142 : decode cX12_nearest 142 = .ok (.aload_n 0, 1) := by decide +kernel
theorem dX12_nearest_143 : decode cX12_nearest 143 = .ok (.iload_n 2, 1) := by decide +kernel
theorem dX12_nearest_144 : decode cX12_nearest 144 = .ok (.invokevirtual 221, 3) := by decide +kernel
theorem dX12_nearest_147 : decode cX12_nearest 147 = .ok (.ireturn, 1) := by decide +kernel
theorem dX12_nearest_148 : decode cX12_nearest 148 = .ok (.iload_n 3, 1) := by decide +kernel
theorem dX12_nearest_149 : decode cX12_nearest 149 = .ok (.ireturn, 1) := by decide +kernel
theorem dX12_nearest_150 : decode cX12_nearest 150 = .ok (.aload_n 0, 1) := by decide +kernel
theorem dX12_nearest_151 : decode cX12_nearest 151 = .ok (.iload_n 2, 1) := by decide +kernel
theorem dX12_nearest_152 : decode cX12_nearest 152 = .ok (.bipush 60, 2) := by decide +kernel
theorem dX12_nearest_154 : decode cX12_nearest 154 = .ok (.idiv, 1) := by decide +kernel
theorem dX12_nearest_155 : decode cX12_nearest 155 = .ok (.iconst 3, 1) := by decide +kernel
theorem dX12_nearest_156 : decode cX12_nearest 156 = .ok (.invokevirtual 138, 3) := by decide +kernel
theorem dX12_nearest_159 : decode cX12_nearest 159 = .ok (.ireturn, 1) := by decide +kernel
theorem dX12_span_0 : decode cX12_span 0 = .ok (.iload_n 1, 1) := by decide +kernel
theorem dX12_span_1 : decode cX12_span 1 = .ok (.iconst 2, 1) := by decide +kernel
theorem dX12_span_2 : decode cX12_span 2 = .ok (.aload_n 0, 1) := by decide +kernel
theorem dX12_span_3 : decode cX12_span 3 = .ok (.getfield 129, 3) := by decide +kernel
theorem dX12_span_6 : decode cX12_span 6 = .ok (.imul, 1) := by decide +kernel
theorem dX12_span_7 : decode cX12_span 7 = .ok (.invokestatic 95, 3) := by decide +kernel
theorem dX12_span_10 : decode cX12_span 10 = .ok (.ifCond .eq 13, 3) := by decide +kernel
theorem dX12_span_13 : decode cX12_span 13 = .ok (.iload_n 2, 1) := by decide +kernel
theorem dX12_span_14 : decode cX12_span 14 = .ok (.iconst 0, 1) := by decide +kernel
theorem dX12_span_15 : decode cX12_span 15 = .ok (.bipush 99, 2) := by decide +kernel
theorem dX12_span_17 : decode cX12_span 17 = .ok (.invokestatic 99, 3) := by decide +kernel
theorem dX12_span_20 : decode cX12_span 20 = .ok (.goto 4, 3) := by decide +kernel
theorem dX12_span_23 : decode cX12_span 23 = .ok (.iconst (-1), 1) := by decide +kernel
theorem dX12_span_24 : decode cX12_span 24 = .ok (.istore 4, 2) := by decide +kernel
theorem dX12_span_26 : decode cX12_span 26 = .ok (.iload 4, 2) := by decide +kernel
theorem dX12_span_28 : decode cX12_span 28 = .ok (.ifCond .eq 10, 3) := by decide +kernel
theorem dX12_span_31 : decode cX12_span 31 = .ok (.aload_n 0, 1) := by decide +kernel
theorem dX12_span_32 : decode cX12_span 32 = .ok (.iload 4, 2) := by decide +kernel
theorem dX12_span_34 : decode cX12_span 34 = .ok (.invokevirtual 103, 3) := by decide +kernel
theorem dX12_span_37 : decode cX12_span 37 = .ok (.ireturn, 1) := by decide +kernel
theorem dX12_span_38 : decode cX12_span 38 = .ok (.bipush (-9), 2) := by decide +kernel
theorem dX12_span_40 : decode cX12_span 40 = .ok (.istore 5, 2) := by decide +kernel
theorem dX12_span_42 : decode cX12_span 42 = .ok (.iconst 0, 1) := by decide +kernel
theorem dX12_span_43 : decode cX12_span 43 = .ok (.istore 6, 2) := by decide +kernel
theorem dX12_span_45 : decode cX12_span 45 = .ok (.iload 6, 2) := by decide +kernel
theorem dX12_span_47 : decode cX12_span 47 = .ok (.bipush 60, 2) := by decide +kernel
theorem dX12_span_49 : decode cX12_span 49 = .ok (.aload_n 0, 1) := by decide +kernel
theorem dX12_span_50 : decode cX12_span 50 = .ok (.getfield 86, 3) := by decide +kernel
theorem dX12_span_53 : decode cX12_span 53 = .ok (.sipush 752, 3) := by decide +kernel
theorem dX12_span_56 : decode cX12_span 56 = .ok (.iaload, 1) := by decide +kernel
theorem dX12_span_57 : decode cX12_span 57 = .ok (.imul, 1) := by decide +kernel
theorem dX12_span_58 : decode cX12_span 58 = .ok (.if_icmp .ge 74, 3) := by decide +kernel
theorem dX12_span_61 : decode cX12_span 61 = .ok (.aload_n 0, 1) := by decide +kernel
theorem dX12_span_62 : decode cX12_span 62 = .ok (.iload 6, 2) := by decide +kernel
theorem dX12_span_64 : decode cX12_span 64 = .ok (.invokevirtual 221, 3) := by decide +kernel
theorem dX12_span_67 : decode cX12_span 67 = .ok (.iload_n 1, 1) := by decide +kernel
theorem dX12_span_68 : decode cX12_span 68 = .ok (.if_icmp .ne 58, 3) := by decide +kernel
theorem dX12_span_71 : decode cX12_span 71 = .ok (.aload_n 0, 1) := by decide +kernel
theorem dX12_span_72 : decode cX12_span 72 = .ok (.iload 6, 2) := by decide +kernel
theorem dX12_span_74 : decode cX12_span 74 = .ok (.iload_n 2, 1) := by decide +kernel
theorem dX12_span_75 : decode cX12_span 75 = .ok (.invokevirtual 218, 3) := by decide +kernel
theorem dX12_span_78 : decode cX12_span 78 = .ok (.ifCond .ne 6, 3) := by decide +kernel
theorem dX12_span_81 : decode cX12_span 81 = .ok (.goto 45, 3) := by decide +kernel
theorem dX12_span_84 : decode cX12_span 84 = .ok (.aload_n 0, 1) := by decide +kernel
theorem dX12_span_85 : decode cX12_span 85 = .ok (.iload 6, 2) := by decide +kernel
theorem dX12_span_87 : decode cX12_span 87 = .ok (.bipush 60, 2) := by decide +kernel
theorem dX12_span_89 : decode cX12_span 89 = .ok (.idiv, 1) := by decide +kernel
theorem dX12_span_90 : decode cX12_span 90 = .ok (.iconst 3, 1) := by decide +kernel
theorem dX12_span_91 : decode cX12_span 91 = .ok (.invokevirtual 138, 3) := by decide +kernel
theorem dX12_span_94 : decode cX12_span 94 = .ok (.istore 7, 2) := by decide +kernel
theorem dX12_span_96 : decode cX12_span 96 = .ok (.iload 5, 2) := by decide +kernel
theorem dX12_span_98 : decode cX12_span 98 = .ok (.ifCond .lt 24, 3) := by decide +kernel
theorem dX12_span_101 : decode cX12_span 101 = .ok (.iload_n 3, 1) := by decide +kernel
theorem dX12_span_102 : decode cX12_span 102 = .ok (.ifCond .eq 13, 3) := by decide +kernel
theorem dX12_span_105 : decode cX12_span 105 = .ok (.iload 7, 2) := by decide +kernel
theorem dX12_span_107 : decode cX12_span 107 = .ok (.iload 5, 2) := by decide +kernel
theorem dX12_span_109 : decode cX12_span 109 = .ok (.if_icmp .le 17, 3) := by decide +kernel
theorem dX12_span_112 : decode cX12_span 112 = .ok (.goto 10, 3) := by decide +kernel
theorem dX12_span_115 : decode cX12_span 115 = .ok (.iload 7, 2) := by decide +kernel
theorem dX12_span_117 : decode cX12_span 117 = .ok (.iload 5, 2) := by decide +kernel
theorem dX12_span_119 : decode cX12_span 119 = .ok (.if_icmp .ge 7, 3) := by decide +kernel
theorem dX12_span_122 : decode cX12_span 122 = .ok (.iload 7, 2) := by decide +kernel
theorem dX12_span_124 : decode cX12_span 124 = .ok (.istore 5, 2) := by decide +kernel
theorem dX12_span_126 : decode cX12_span 126 = .ok (.iinc 6 1, 3) := by decide +kernel
theorem dX12_span_129 : decode cX12_span 129 = .ok (.goto (-84), 3) := by decide +kernel
theorem dX12_span_132 : decode cX12_span 132 = .ok (.iload 5, 2) := by decide +kernel
theorem dX12_span_134 : decode cX12_span 134 = .ok (.ireturn, 1) := by decide +kernel
theorem dX12_heapOf_0 : decode cX12_heapOf 0 = .ok (.iload_n 1, 1) := by decide +kernel
theorem dX12_heapOf_1 : decode cX12_heapOf 1 = .ok (.aload_n 0, 1) := by decide +kernel
theorem dX12_heapOf_2 : decode cX12_heapOf 2 = .ok (.getfield 115, 3) := by decide +kernel
theorem dX12_heapOf_5 : decode cX12_heapOf 5 = .ok (.invokestatic 95, 3) := by decide +kernel
theorem dX12_heapOf_8 : decode cX12_heapOf 8 = .ok (.ifCond .ne 9, 3) := by decide +kernel
theorem dX12_heapOf_11 : decode cX12_heapOf 11 = .ok (.aload_n 0, 1) := by decide +kernel
theorem dX12_heapOf_12 : decode cX12_heapOf 12 = .ok (.iconst (-1), 1) := by decide +kernel
theorem dX12_heapOf_13 : decode cX12_heapOf 13 = .ok (.invokevirtual 103, 3) := by decide +kernel
theorem dX12_heapOf_16 : decode cX12_heapOf 16 = .ok (.ireturn, 1) := by decide +kernel
theorem dX12_heapOf_17 : decode cX12_heapOf 17 = .ok (.iload_n 2, 1) := by decide +kernel
theorem dX12_heapOf_18 : decode cX12_heapOf 18 = .ok (.tableswitch 80 0 4 #[34, 41, 50, 56, 70], 34) := by decide +kernel
theorem dX12_heapOf_52 : decode cX12_heapOf 52 = .ok (.aload_n 0, 1) := by decide +kernel
theorem dX12_heapOf_53 : decode cX12_heapOf 53 = .ok (.getfield 34, 3) := by decide +kernel
theorem dX12_heapOf_56 : decode cX12_heapOf 56 = .ok (.iload_n 1, 1) := by decide +kernel
theorem dX12_heapOf_57 : decode cX12_heapOf 57 = .ok (.iaload, 1) := by decide +kernel
theorem dX12_heapOf_58 : decode cX12_heapOf 58 = .ok (.ireturn, 1) := by decide +kernel
theorem dX12_heapOf_59 : decode cX12_heapOf 59 = .ok (.aload_n 0, 1) := by decide +kernel
theorem dX12_heapOf_60 : decode cX12_heapOf 60 = .ok (.getfield 86, 3) := by decide +kernel
theorem dX12_heapOf_63 : decode cX12_heapOf 63 = .ok (.iconst 0, 1) := by decide +kernel
theorem dX12_heapOf_64 : decode cX12_heapOf 64 = .ok (.iload_n 1, 1) := by decide +kernel
theorem dX12_heapOf_65 : decode cX12_heapOf 65 = .ok (.iadd, 1) := by decide +kernel
theorem dX12_heapOf_66 : decode cX12_heapOf 66 = .ok (.iaload, 1) := by decide +kernel
theorem dX12_heapOf_67 : decode cX12_heapOf 67 = .ok (.ireturn, 1) := by decide +kernel
theorem dX12_heapOf_68 : decode cX12_heapOf 68 = .ok (.aload_n 0, 1) := by decide +kernel
theorem dX12_heapOf_69 : decode cX12_heapOf 69 = .ok (.iload_n 1, 1) := by decide +kernel
theorem dX12_heapOf_70 : decode cX12_heapOf 70 = .ok (.invokevirtual 118, 3) := by decide +kernel
theorem dX12_heapOf_73 : decode cX12_heapOf 73 = .ok (.ireturn, 1) := by decide +kernel
theorem dX12_heapOf_74 : decode cX12_heapOf 74 = .ok (.aload_n 0, 1) := by decide +kernel
theorem dX12_heapOf_75 : decode cX12_heapOf 75 = .ok (.iload_n 1, 1) := by decide +kernel
theorem dX12_heapOf_76 : decode cX12_heapOf 76 = .ok (.invokevirtual 121, 3) := by decide +kernel
theorem dX12_heapOf_79 : decode cX12_heapOf 79 = .ok (.ifCond .eq 7, 3) := by decide +kernel
theorem dX12_heapOf_82 : decode cX12_heapOf 82 = .ok (.iconst 1, 1) := by decide +kernel
theorem dX12_heapOf_83 : decode cX12_heapOf 83 = .ok (.goto 4, 3) := by decide +kernel
theorem dX12_heapOf_86 : decode cX12_heapOf 86 = .ok (.iconst 0, 1) := by decide +kernel
theorem dX12_heapOf_87 : decode cX12_heapOf 87 = .ok (.ireturn, 1) := by decide +kernel
theorem dX12_heapOf_88 : decode cX12_heapOf 88 = .ok (.aload_n 0, 1) := by decide +kernel
theorem dX12_heapOf_89 : decode cX12_heapOf 89 = .ok (.getfield 86, 3) := by decide +kernel
theorem dX12_heapOf_92 : decode cX12_heapOf 92 = .ok (.bipush 40, 2) := by decide +kernel
theorem dX12_heapOf_94 : decode cX12_heapOf 94 = .ok (.iload_n 1, 1) := by decide +kernel
theorem dX12_heapOf_95 : decode cX12_heapOf 95 = .ok (.iadd, 1) := by decide +kernel
theorem dX12_heapOf_96 : decode cX12_heapOf 96 = .ok (.iaload, 1) := by decide +kernel
theorem dX12_heapOf_97 : decode cX12_heapOf 97 = .ok (.ireturn, 1) := by decide +kernel
theorem dX12_heapOf_98 : decode cX12_heapOf 98 = .ok (.aload_n 0, 1) := by decide +kernel
theorem dX12_heapOf_99 : decode cX12_heapOf 99 = .ok (.bipush (-2), 2) := by decide +kernel
theorem dX12_heapOf_101 : decode cX12_heapOf 101 = .ok (.invokevirtual 103, 3) := by decide +kernel
theorem dX12_heapOf_104 : decode cX12_heapOf 104 = .ok (.ireturn, 1) := by decide +kernel
theorem dX12_beaterOf_0 : decode cX12_beaterOf 0 = .ok (.iload_n 1, 1) := by decide +kernel
theorem dX12_beaterOf_1 : decode cX12_beaterOf 1 = .ok (.iconst 4, 1) := by decide +kernel
theorem dX12_beaterOf_2 : decode cX12_beaterOf 2 = .ok (.invokestatic 95, 3) := by decide +kernel
theorem dX12_beaterOf_5 : decode cX12_beaterOf 5 = .ok (.ifCond .ne 9, 3) := by decide +kernel
theorem dX12_beaterOf_8 : decode cX12_beaterOf 8 = .ok (.aload_n 0, 1) := by decide +kernel
theorem dX12_beaterOf_9 : decode cX12_beaterOf 9 = .ok (.iconst (-1), 1) := by decide +kernel
theorem dX12_beaterOf_10 : decode cX12_beaterOf 10 = .ok (.invokevirtual 103, 3) := by decide +kernel
theorem dX12_beaterOf_13 : decode cX12_beaterOf 13 = .ok (.ireturn, 1) := by decide +kernel
theorem dX12_beaterOf_14 : decode cX12_beaterOf 14 = .ok (.iload_n 2, 1) := by decide +kernel
theorem dX12_beaterOf_15 : decode cX12_beaterOf 15 = .ok (.iconst 4, 1) := by decide +kernel
theorem dX12_beaterOf_16 : decode cX12_beaterOf 16 = .ok (.invokestatic 95, 3) := by decide +kernel
theorem dX12_beaterOf_19 : decode cX12_beaterOf 19 = .ok (.ifCond .ne 10, 3) := by decide +kernel
theorem dX12_beaterOf_22 : decode cX12_beaterOf 22 = .ok (.aload_n 0, 1) := by decide +kernel
theorem dX12_beaterOf_23 : decode cX12_beaterOf 23 = .ok (.bipush (-2), 2) := by decide +kernel
theorem dX12_beaterOf_25 : decode cX12_beaterOf 25 = .ok (.invokevirtual 103, 3) := by decide +kernel
theorem dX12_beaterOf_28 : decode cX12_beaterOf 28 = .ok (.ireturn, 1) := by decide +kernel
theorem dX12_beaterOf_29 : decode cX12_beaterOf 29 = .ok (.bipush 80, 2) := by decide +kernel
theorem dX12_beaterOf_31 : decode cX12_beaterOf 31 = .ok (.iconst 4, 1) := by decide +kernel
theorem dX12_beaterOf_32 : decode cX12_beaterOf 32 = .ok (.iload_n 1, 1) := by decide +kernel
theorem dX12_beaterOf_33 : decode cX12_beaterOf 33 = .ok (.imul, 1) := by decide +kernel
theorem dX12_beaterOf_34 : decode cX12_beaterOf 34 = .ok (.iadd, 1) := by decide +kernel
theorem dX12_beaterOf_35 : decode cX12_beaterOf 35 = .ok (.istore_n 3, 1) := by decide +kernel
theorem dX12_beaterOf_36 : decode cX12_beaterOf 36 = .ok (.iload_n 2, 1) := by decide +kernel
theorem dX12_beaterOf_37 : decode cX12_beaterOf 37 = .ok (.iconst 1, 1) := by decide +kernel
theorem dX12_beaterOf_38 : decode cX12_beaterOf 38 = .ok (.if_icmp .ne 26, 3) := by decide +kernel
theorem dX12_beaterOf_41 : decode cX12_beaterOf 41 = .ok (.aload_n 0, 1) := by decide +kernel
theorem dX12_beaterOf_42 : decode cX12_beaterOf 42 = .ok (.getfield 86, 3) := by decide +kernel
theorem dX12_beaterOf_45 : decode cX12_beaterOf 45 = .ok (.iload_n 3, 1) := by decide +kernel
theorem dX12_beaterOf_46 : decode cX12_beaterOf 46 = .ok (.iaload, 1) := by decide +kernel
theorem dX12_beaterOf_47 : decode cX12_beaterOf 47 = .ok (.ifCond .ne 8, 3) := by decide +kernel
theorem dX12_beaterOf_50 : decode cX12_beaterOf 50 = .ok (.bipush (-9), 2) := by decide +kernel
theorem dX12_beaterOf_52 : decode cX12_beaterOf 52 = .ok (.goto 11, 3) := by decide +kernel
theorem dX12_beaterOf_55 : decode cX12_beaterOf 55 = .ok (.aload_n 0, 1) := by decide +kernel
theorem dX12_beaterOf_56 : decode cX12_beaterOf 56 = .ok (.getfield 86, 3) := by decide +kernel
theorem dX12_beaterOf_59 : decode cX12_beaterOf 59 = .ok (.iload_n 3, 1) := by decide +kernel
theorem dX12_beaterOf_60 : decode cX12_beaterOf 60 = .ok (.iconst 1, 1) := by decide +kernel
theorem dX12_beaterOf_61 : decode cX12_beaterOf 61 = .ok (.iadd, 1) := by decide +kernel
theorem dX12_beaterOf_62 : decode cX12_beaterOf 62 = .ok (.iaload, 1) := by decide +kernel
theorem dX12_beaterOf_63 : decode cX12_beaterOf 63 = .ok (.ireturn, 1) := by decide +kernel
theorem dX12_beaterOf_64 : decode cX12_beaterOf 64 = .ok (.iload_n 2, 1) := by decide +kernel
theorem dX12_beaterOf_65 : decode cX12_beaterOf 65 = .ok (.iconst 2, 1) := by decide +kernel
theorem dX12_beaterOf_66 : decode cX12_beaterOf 66 = .ok (.if_icmp .ne 16, 3) := by decide +kernel
end
section
theorem dX12_beaterOf_69 : decode cX12_beaterOf 69 = .ok (.aload_n 0, 1) := by decide +kernel
theorem dX12_beaterOf_70 : decode cX12_beaterOf 70 = .ok (.getfield 86, 3) := by decide +kernel
theorem dX12_beaterOf_73 : decode cX12_beaterOf 73 = .ok (.iload_n 3, 1) := by decide +kernel
theorem dX12_beaterOf_74 : decode cX12_beaterOf 74 = .ok (.iaload, 1) := by decide +kernel
theorem dX12_beaterOf_75 : decode cX12_beaterOf 75 = .ok (.ifCond .ne 7, 3) := by decide +kernel
theorem dX12_beaterOf_78 : decode cX12_beaterOf 78 = .ok (.iconst 0, 1) := by decide +kernel
theorem dX12_beaterOf_79 : decode cX12_beaterOf 79 = .ok (.goto 11, 3) := by decide +kernel
theorem dX12_beaterOf_82 : decode cX12_beaterOf 82 = .ok (.aload_n 0, 1) := by decide +kernel
theorem dX12_beaterOf_83 : decode cX12_beaterOf 83 = .ok (.getfield 86, 3) := by decide +kernel
theorem dX12_beaterOf_86 : decode cX12_beaterOf 86 = .ok (.iload_n 3, 1) := by decide +kernel
theorem dX12_beaterOf_87 : decode cX12_beaterOf 87 = .ok (.iload_n 2, 1) := by decide +kernel
theorem dX12_beaterOf_88 : decode cX12_beaterOf 88 = .ok (.iadd, 1) := by decide +kernel
theorem dX12_beaterOf_89 : decode cX12_beaterOf 89 = .ok (.iaload, 1) := by decide +kernel
theorem dX12_beaterOf_90 : decode cX12_beaterOf 90 = .ok (.ireturn, 1) := by decide +kernel
theorem dX12_vatOf_0 : decode cX12_vatOf 0 = .ok (.iload_n 1, 1) := by decide +kernel
theorem dX12_vatOf_1 : decode cX12_vatOf 1 = .ok (.iconst 3, 1) := by decide +kernel
theorem dX12_vatOf_2 : decode cX12_vatOf 2 = .ok (.invokestatic 95, 3) := by decide +kernel
theorem dX12_vatOf_5 : decode cX12_vatOf 5 = .ok (.ifCond .ne 9, 3) := by decide +kernel
theorem dX12_vatOf_8 : decode cX12_vatOf 8 = .ok (.aload_n 0, 1) := by decide +kernel
theorem dX12_vatOf_9 : decode cX12_vatOf 9 = .ok (.iconst (-1), 1) := by decide +kernel
theorem dX12_vatOf_10 : decode cX12_vatOf 10 = .ok (.invokevirtual 103, 3) := by decide +kernel
theorem dX12_vatOf_13 : decode cX12_vatOf 13 = .ok (.ireturn, 1) := by decide +kernel
theorem dX12_vatOf_14 : decode cX12_vatOf 14 = .ok (.iload_n 2, 1) := by decide +kernel
theorem dX12_vatOf_15 : decode cX12_vatOf 15 = .ok (.tableswitch 83 0 3 #[29, 50, 57, 69], 29) := by decide +kernel
theorem dX12_vatOf_44 : decode cX12_vatOf 44 = .ok (.aload_n 0, 1) := by decide +kernel
theorem dX12_vatOf_45 : decode cX12_vatOf 45 = .ok (.getfield 49, 3) := by decide +kernel
theorem dX12_vatOf_48 : decode cX12_vatOf 48 = .ok (.iload_n 1, 1) := by decide +kernel
theorem dX12_vatOf_49 : decode cX12_vatOf 49 = .ok (.iaload, 1) := by decide +kernel
theorem dX12_vatOf_50 : decode cX12_vatOf 50 = .ok (.ifCond .ge 8, 3) := by decide +kernel
theorem dX12_vatOf_53 : decode cX12_vatOf 53 = .ok (.bipush (-9), 2) := by decide +kernel
theorem dX12_vatOf_55 : decode cX12_vatOf 55 = .ok (.goto 9, 3) := by decide +kernel
theorem dX12_vatOf_58 : decode cX12_vatOf 58 = .ok (.aload_n 0, 1) := by decide +kernel
theorem dX12_vatOf_59 : decode cX12_vatOf 59 = .ok (.getfield 49, 3) := by decide +kernel
theorem dX12_vatOf_62 : decode cX12_vatOf 62 = .ok (.iload_n 1, 1) := by decide +kernel
theorem dX12_vatOf_63 : decode cX12_vatOf 63 = .ok (.iaload, 1) := by decide +kernel
theorem dX12_vatOf_64 : decode cX12_vatOf 64 = .ok (.ireturn, 1) := by decide +kernel
theorem dX12_vatOf_65 : decode cX12_vatOf 65 = .ok (.aload_n 0, 1) := by decide +kernel
theorem dX12_vatOf_66 : decode cX12_vatOf 66 = .ok (.getfield 52, 3) := by decide +kernel
theorem dX12_vatOf_69 : decode cX12_vatOf 69 = .ok (.iload_n 1, 1) := by decide +kernel
theorem dX12_vatOf_70 : decode cX12_vatOf 70 = .ok (.iaload, 1) := by decide +kernel
theorem dX12_vatOf_71 : decode cX12_vatOf 71 = .ok (.ireturn, 1) := by decide +kernel
theorem dX12_vatOf_72 : decode cX12_vatOf 72 = .ok (.aload_n 0, 1) := by decide +kernel
theorem dX12_vatOf_73 : decode cX12_vatOf 73 = .ok (.getfield 86, 3) := by decide +kernel
theorem dX12_vatOf_76 : decode cX12_vatOf 76 = .ok (.bipush 105, 2) := by decide +kernel
theorem dX12_vatOf_78 : decode cX12_vatOf 78 = .ok (.iconst 2, 1) := by decide +kernel
theorem dX12_vatOf_79 : decode cX12_vatOf 79 = .ok (.iload_n 1, 1) := by decide +kernel
theorem dX12_vatOf_80 : decode cX12_vatOf 80 = .ok (.imul, 1) := by decide +kernel
theorem dX12_vatOf_81 : decode cX12_vatOf 81 = .ok (.iadd, 1) := by decide +kernel
theorem dX12_vatOf_82 : decode cX12_vatOf 82 = .ok (.iaload, 1) := by decide +kernel
theorem dX12_vatOf_83 : decode cX12_vatOf 83 = .ok (.ireturn, 1) := by decide +kernel
theorem dX12_vatOf_84 : decode cX12_vatOf 84 = .ok (.aload_n 0, 1) := by decide +kernel
theorem dX12_vatOf_85 : decode cX12_vatOf 85 = .ok (.getfield 86, 3) := by decide +kernel
theorem dX12_vatOf_88 : decode cX12_vatOf 88 = .ok (.bipush 105, 2) := by decide +kernel
theorem dX12_vatOf_90 : decode cX12_vatOf 90 = .ok (.iconst 2, 1) := by decide +kernel
theorem dX12_vatOf_91 : decode cX12_vatOf 91 = .ok (.iload_n 1, 1) := by decide +kernel
theorem dX12_vatOf_92 : decode cX12_vatOf 92 = .ok (.imul, 1) := by decide +kernel
theorem dX12_vatOf_93 : decode cX12_vatOf 93 = .ok (.iadd, 1) := by decide +kernel
theorem dX12_vatOf_94 : decode cX12_vatOf 94 = .ok (.iconst 1, 1) := by decide +kernel
theorem dX12_vatOf_95 : decode cX12_vatOf 95 = .ok (.iadd, 1) := by decide +kernel
theorem dX12_vatOf_96 : decode cX12_vatOf 96 = .ok (.iaload, 1) := by decide +kernel
theorem dX12_vatOf_97 : decode cX12_vatOf 97 = .ok (.ireturn, 1) := by decide +kernel
theorem dX12_vatOf_98 : decode cX12_vatOf 98 = .ok (.aload_n 0, 1) := by decide +kernel
theorem dX12_vatOf_99 : decode cX12_vatOf 99 = .ok (.bipush (-2), 2) := by decide +kernel
theorem dX12_vatOf_101 : decode cX12_vatOf 101 = .ok (.invokevirtual 103, 3) := by decide +kernel
theorem dX12_vatOf_104 : decode cX12_vatOf 104 = .ok (.ireturn, 1) := by decide +kernel
theorem dX12_postOf_0 : decode cX12_postOf 0 = .ok (.iload_n 1, 1) := by decide +kernel
theorem dX12_postOf_1 : decode cX12_postOf 1 = .ok (.aload_n 0, 1) := by decide +kernel
theorem dX12_postOf_2 : decode cX12_postOf 2 = .ok (.getfield 86, 3) := by decide +kernel
theorem dX12_postOf_5 : decode cX12_postOf 5 = .ok (.sipush 752, 3) := by decide +kernel
theorem dX12_postOf_8 : decode cX12_postOf 8 = .ok (.iaload, 1) := by decide +kernel
theorem dX12_postOf_9 : decode cX12_postOf 9 = .ok (.invokestatic 95, 3) := by decide +kernel
theorem dX12_postOf_12 : decode cX12_postOf 12 = .ok (.ifCond .ne 9, 3) := by decide +kernel
theorem dX12_postOf_15 : decode cX12_postOf 15 = .ok (.aload_n 0, 1) := by decide +kernel
theorem dX12_postOf_16 : decode cX12_postOf 16 = .ok (.iconst (-1), 1) := by decide +kernel
theorem dX12_postOf_17 : decode cX12_postOf 17 = .ok (.invokevirtual 103, 3) := by decide +kernel
theorem dX12_postOf_20 : decode cX12_postOf 20 = .ok (.ireturn, 1) := by decide +kernel
theorem dX12_postOf_21 : decode cX12_postOf 21 = .ok (.iload_n 2, 1) := by decide +kernel
theorem dX12_postOf_22 : decode cX12_postOf 22 = .ok (.bipush 8, 2) := by decide +kernel
theorem dX12_postOf_24 : decode cX12_postOf 24 = .ok (.invokestatic 95, 3) := by decide +kernel
theorem dX12_postOf_27 : decode cX12_postOf 27 = .ok (.ifCond .eq 12, 3) := by decide +kernel
theorem dX12_postOf_30 : decode cX12_postOf 30 = .ok (.aload_n 0, 1) := by decide +kernel
theorem dX12_postOf_31 : decode cX12_postOf 31 = .ok (.iload_n 1, 1) := by decide +kernel
theorem dX12_postOf_32 : decode cX12_postOf 32 = .ok (.iload_n 2, 1) := by decide +kernel
theorem dX12_postOf_33 : decode cX12_postOf 33 = .ok (.invokevirtual 138, 3) := by decide +kernel
theorem dX12_postOf_36 : decode cX12_postOf 36 = .ok (.goto 9, 3) := by decide +kernel
theorem dX12_postOf_39 : decode cX12_postOf 39 = .ok (.aload_n 0, 1) := by decide +kernel
theorem dX12_postOf_40 : decode cX12_postOf 40 = .ok (.bipush (-2), 2) := by decide +kernel
theorem dX12_postOf_42 : decode cX12_postOf 42 = .ok (.invokevirtual 103, 3) := by decide +kernel
theorem dX12_postOf_45 : decode cX12_postOf 45 = .ok (.ireturn, 1) := by decide +kernel
theorem dX12_orderOf_0 : decode cX12_orderOf 0 = .ok (.iload_n 1, 1) := by decide +kernel
theorem dX12_orderOf_1 : decode cX12_orderOf 1 = .ok (.aload_n 0, 1) := by decide +kernel
theorem dX12_orderOf_2 : decode cX12_orderOf 2 = .ok (.getfield 154, 3) := by decide +kernel
theorem dX12_orderOf_5 : decode cX12_orderOf 5 = .ok (.invokestatic 95, 3) := by decide +kernel
theorem dX12_orderOf_8 : decode cX12_orderOf 8 = .ok (.ifCond .ne 9, 3) := by decide +kernel
theorem dX12_orderOf_11 : decode cX12_orderOf 11 = .ok (.aload_n 0, 1) := by decide +kernel
theorem dX12_orderOf_12 : decode cX12_orderOf 12 = .ok (.iconst (-1), 1) := by decide +kernel
theorem dX12_orderOf_13 : decode cX12_orderOf 13 = .ok (.invokevirtual 103, 3) := by decide +kernel
theorem dX12_orderOf_16 : decode cX12_orderOf 16 = .ok (.ireturn, 1) := by decide +kernel
theorem dX12_orderOf_17 : decode cX12_orderOf 17 = .ok (.iload_n 2, 1) := by decide +kernel
theorem dX12_orderOf_18 : decode cX12_orderOf 18 = .ok (.tableswitch 80 0 5 #[38, 45, 52, 59, 66, 73], 38) := by decide +kernel
theorem dX12_orderOf_56 : decode cX12_orderOf 56 = .ok (.aload_n 0, 1) := by decide +kernel
theorem dX12_orderOf_57 : decode cX12_orderOf 57 = .ok (.getfield 59, 3) := by decide +kernel
theorem dX12_orderOf_60 : decode cX12_orderOf 60 = .ok (.iload_n 1, 1) := by decide +kernel
theorem dX12_orderOf_61 : decode cX12_orderOf 61 = .ok (.iaload, 1) := by decide +kernel
theorem dX12_orderOf_62 : decode cX12_orderOf 62 = .ok (.ireturn, 1) := by decide +kernel
theorem dX12_orderOf_63 : decode cX12_orderOf 63 = .ok (.aload_n 0, 1) := by decide +kernel
theorem dX12_orderOf_64 : decode cX12_orderOf 64 = .ok (.getfield 62, 3) := by decide +kernel
theorem dX12_orderOf_67 : decode cX12_orderOf 67 = .ok (.iload_n 1, 1) := by decide +kernel
theorem dX12_orderOf_68 : decode cX12_orderOf 68 = .ok (.iaload, 1) := by decide +kernel
theorem dX12_orderOf_69 : decode cX12_orderOf 69 = .ok (.ireturn, 1) := by decide +kernel
theorem dX12_orderOf_70 : decode cX12_orderOf 70 = .ok (.aload_n 0, 1) := by decide +kernel
theorem dX12_orderOf_71 : decode cX12_orderOf 71 = .ok (.getfield 65, 3) := by decide +kernel
theorem dX12_orderOf_74 : decode cX12_orderOf 74 = .ok (.iload_n 1, 1) := by decide +kernel
theorem dX12_orderOf_75 : decode cX12_orderOf 75 = .ok (.iaload, 1) := by decide +kernel
theorem dX12_orderOf_76 : decode cX12_orderOf 76 = .ok (.ireturn, 1) := by decide +kernel
theorem dX12_orderOf_77 : decode cX12_orderOf 77 = .ok (.aload_n 0, 1) := by decide +kernel
theorem dX12_orderOf_78 : decode cX12_orderOf 78 = .ok (.getfield 68, 3) := by decide +kernel
theorem dX12_orderOf_81 : decode cX12_orderOf 81 = .ok (.iload_n 1, 1) := by decide +kernel
theorem dX12_orderOf_82 : decode cX12_orderOf 82 = .ok (.iaload, 1) := by decide +kernel
theorem dX12_orderOf_83 : decode cX12_orderOf 83 = .ok (.ireturn, 1) := by decide +kernel
theorem dX12_orderOf_84 : decode cX12_orderOf 84 = .ok (.aload_n 0, 1) := by decide +kernel
theorem dX12_orderOf_85 : decode cX12_orderOf 85 = .ok (.getfield 71, 3) := by decide +kernel
theorem dX12_orderOf_88 : decode cX12_orderOf 88 = .ok (.iload_n 1, 1) := by decide +kernel
theorem dX12_orderOf_89 : decode cX12_orderOf 89 = .ok (.iaload, 1) := by decide +kernel
theorem dX12_orderOf_90 : decode cX12_orderOf 90 = .ok (.ireturn, 1) := by decide +kernel
theorem dX12_orderOf_91 : decode cX12_orderOf 91 = .ok (.aload_n 0, 1) := by decide +kernel
theorem dX12_orderOf_92 : decode cX12_orderOf 92 = .ok (.getfield 74, 3) := by decide +kernel
theorem dX12_orderOf_95 : decode cX12_orderOf 95 = .ok (.iload_n 1, 1) := by decide +kernel
theorem dX12_orderOf_96 : decode cX12_orderOf 96 = .ok (.iaload, 1) := by decide +kernel
theorem dX12_orderOf_97 : decode cX12_orderOf 97 = .ok (.ireturn, 1) := by decide +kernel
theorem dX12_orderOf_98 : decode cX12_orderOf 98 = .ok (.aload_n 0, 1) := by decide +kernel
theorem dX12_orderOf_99 : decode cX12_orderOf 99 = .ok (.bipush (-2), 2) := by decide +kernel
theorem dX12_orderOf_101 : decode cX12_orderOf 101 = .ok (.invokevirtual 103, 3) := by decide +kernel
theorem dX12_orderOf_104 : decode cX12_orderOf 104 = .ok (.ireturn, 1) := by decide +kernel
theorem dX12_sheets_0 : decode cX12_sheets 0 = .ok (.aload_n 0, 1) := by decide +kernel
theorem dX12_sheets_1 : decode cX12_sheets 1 = .ok (.iload_n 1, 1) := by decide +kernel
theorem dX12_sheets_2 : decode cX12_sheets 2 = .ok (.invokevirtual 111, 3) := by decide +kernel
theorem dX12_sheets_5 : decode cX12_sheets 5 = .ok (.ifCond .eq 24, 3) := by decide +kernel
theorem dX12_sheets_8 : decode cX12_sheets 8 = .ok (.iload_n 2, 1) := by decide +kernel
theorem dX12_sheets_9 : decode cX12_sheets 9 = .ok (.invokestatic 151, 3) := by decide +kernel
theorem dX12_sheets_12 : decode cX12_sheets 12 = .ok (.ifCond .eq 17, 3) := by decide +kernel
theorem dX12_sheets_15 : decode cX12_sheets 15 = .ok (.aload_n 0, 1) := by decide +kernel
theorem dX12_sheets_16 : decode cX12_sheets 16 = .ok (.getfield 31, 3) := by decide +kernel
theorem dX12_sheets_19 : decode cX12_sheets 19 = .ok (.bipush 9, 2) := by decide +kernel
theorem dX12_sheets_21 : decode cX12_sheets 21 = .ok (.iload_n 1, 1) := by decide +kernel
theorem dX12_sheets_22 : decode cX12_sheets 22 = .ok (.imul, 1) := by decide +kernel
theorem dX12_sheets_23 : decode cX12_sheets 23 = .ok (.iload_n 2, 1) := by decide +kernel
theorem dX12_sheets_24 : decode cX12_sheets 24 = .ok (.iadd, 1) := by decide +kernel
theorem dX12_sheets_25 : decode cX12_sheets 25 = .ok (.iaload, 1) := by decide +kernel
theorem dX12_sheets_26 : decode cX12_sheets 26 = .ok (.goto 8, 3) := by decide +kernel
theorem dX12_sheets_29 : decode cX12_sheets 29 = .ok (.aload_n 0, 1) := by decide +kernel
theorem dX12_sheets_30 : decode cX12_sheets 30 = .ok (.iconst (-1), 1) := by decide +kernel
theorem dX12_sheets_31 : decode cX12_sheets 31 = .ok (.invokevirtual 103, 3) := by decide +kernel
theorem dX12_sheets_34 : decode cX12_sheets 34 = .ok (.ireturn, 1) := by decide +kernel
theorem dX12_count_0 : decode cX12_count 0 = .ok (.iload_n 1, 1) := by decide +kernel
theorem dX12_count_1 : decode cX12_count 1 = .ok (.bipush 10, 2) := by decide +kernel
theorem dX12_count_3 : decode cX12_count 3 = .ok (.if_icmp .le 19, 3) := by decide +kernel
theorem dX12_count_6 : decode cX12_count 6 = .ok (.iload_n 1, 1) := by decide +kernel
theorem dX12_count_7 : decode cX12_count 7 = .ok (.bipush 17, 2) := by decide +kernel
theorem dX12_count_9 : decode cX12_count 9 = .ok (.if_icmp .ge 13, 3) := by decide +kernel
theorem dX12_count_12 : decode cX12_count 12 = .ok (.aload_n 0, 1) := by decide +kernel
theorem dX12_count_13 : decode cX12_count 13 = .ok (.getfield 7, 3) := by decide +kernel
theorem dX12_count_16 : decode cX12_count 16 = .ok (.iload_n 1, 1) := by decide +kernel
theorem dX12_count_17 : decode cX12_count 17 = .ok (.bipush 10, 2) := by decide +kernel
theorem dX12_count_19 : decode cX12_count 19 = .ok (.isub, 1) := by decide +kernel
theorem dX12_count_20 : decode cX12_count 20 = .ok (.iaload, 1) := by decide +kernel
theorem dX12_count_21 : decode cX12_count 21 = .ok (.ireturn, 1) := by decide +kernel
theorem dX12_count_22 : decode cX12_count 22 = .ok (.aload_n 0, 1) := by decide +kernel
theorem dX12_count_23 : decode cX12_count 23 = .ok (.iload_n 1, 1) := by decide +kernel
theorem dX12_count_24 : decode cX12_count 24 = .ok (.bipush 20, 2) := by decide +kernel
theorem dX12_count_26 : decode cX12_count 26 = .ok (.isub, 1) := by decide +kernel
theorem dX12_count_27 : decode cX12_count 27 = .ok (.invokevirtual 111, 3) := by decide +kernel
theorem dX12_count_30 : decode cX12_count 30 = .ok (.ifCond .eq 13, 3) := by decide +kernel
theorem dX12_count_33 : decode cX12_count 33 = .ok (.aload_n 0, 1) := by decide +kernel
theorem dX12_count_34 : decode cX12_count 34 = .ok (.getfield 25, 3) := by decide +kernel
theorem dX12_count_37 : decode cX12_count 37 = .ok (.iload_n 1, 1) := by decide +kernel
theorem dX12_count_38 : decode cX12_count 38 = .ok (.bipush 20, 2) := by decide +kernel
theorem dX12_count_40 : decode cX12_count 40 = .ok (.isub, 1) := by decide +kernel
theorem dX12_count_41 : decode cX12_count 41 = .ok (.iaload, 1) := by decide +kernel
theorem dX12_count_42 : decode cX12_count 42 = .ok (.ireturn, 1) := by decide +kernel
theorem dX12_count_43 : decode cX12_count 43 = .ok (.aload_n 0, 1) := by decide +kernel
theorem dX12_count_44 : decode cX12_count 44 = .ok (.iload_n 1, 1) := by decide +kernel
theorem dX12_count_45 : decode cX12_count 45 = .ok (.bipush 30, 2) := by decide +kernel
theorem dX12_count_47 : decode cX12_count 47 = .ok (.isub, 1) := by decide +kernel
theorem dX12_count_48 : decode cX12_count 48 = .ok (.invokevirtual 111, 3) := by decide +kernel
theorem dX12_count_51 : decode cX12_count 51 = .ok (.ifCond .eq 16, 3) := by decide +kernel
theorem dX12_count_54 : decode cX12_count 54 = .ok (.aload_n 0, 1) := by decide +kernel
theorem dX12_count_55 : decode cX12_count 55 = .ok (.getfield 86, 3) := by decide +kernel
theorem dX12_count_58 : decode cX12_count 58 = .ok (.bipush 96, 2) := by decide +kernel
theorem dX12_count_60 : decode cX12_count 60 = .ok (.iload_n 1, 1) := by decide +kernel
theorem dX12_count_61 : decode cX12_count 61 = .ok (.iadd, 1) := by decide +kernel
theorem dX12_count_62 : decode cX12_count 62 = .ok (.bipush 30, 2) := by decide +kernel
theorem dX12_count_64 : decode cX12_count 64 = .ok (.isub, 1) := by decide +kernel
theorem dX12_count_65 : decode cX12_count 65 = .ok (.iaload, 1) := by decide +kernel
theorem dX12_count_66 : decode cX12_count 66 = .ok (.ireturn, 1) := by decide +kernel
theorem dX12_count_67 : decode cX12_count 67 = .ok (.iload_n 1, 1) := by decide +kernel
theorem dX12_count_68 : decode cX12_count 68 = .ok (.tableswitch 126 0 9 #[56, 65, 70, 75, 84, 89, 97, 102, 111, 120], 56) := by decide +kernel
theorem dX12_count_124 : decode cX12_count 124 = .ok (.aload_n 0, 1) := by decide +kernel
theorem dX12_count_125 : decode cX12_count 125 = .ok (.getfield 86, 3) := by decide +kernel
theorem dX12_count_128 : decode cX12_count 128 = .ok (.sipush 751, 3) := by decide +kernel
theorem dX12_count_131 : decode cX12_count 131 = .ok (.iaload, 1) := by decide +kernel
theorem dX12_count_132 : decode cX12_count 132 = .ok (.ireturn, 1) := by decide +kernel
theorem dX12_count_133 : decode cX12_count 133 = .ok (.aload_n 0, 1) := by decide +kernel
theorem dX12_count_134 : decode cX12_count 134 = .ok (.getfield 115, 3) := by decide +kernel
theorem dX12_count_137 : decode cX12_count 137 = .ok (.ireturn, 1) := by decide +kernel
theorem dX12_count_138 : decode cX12_count 138 = .ok (.aload_n 0, 1) := by decide +kernel
theorem dX12_count_139 : decode cX12_count 139 = .ok (.getfield 129, 3) := by decide +kernel
theorem dX12_count_142 : decode cX12_count 142 = .ok (.ireturn, 1) := by decide +kernel
theorem dX12_count_143 : decode cX12_count 143 = .ok (.aload_n 0, 1) := by decide +kernel
theorem dX12_count_144 : decode cX12_count 144 = .ok (.getfield 86, 3) := by decide +kernel
theorem dX12_count_147 : decode cX12_count 147 = .ok (.sipush 752, 3) := by decide +kernel
theorem dX12_count_150 : decode cX12_count 150 = .ok (.iaload, 1) := by decide +kernel
theorem dX12_count_151 : decode cX12_count 151 = .ok (.ireturn, 1) := by decide +kernel
theorem dX12_count_152 : decode cX12_count 152 = .ok (.aload_n 0, 1) := by decide +kernel
theorem dX12_count_153 : decode cX12_count 153 = .ok (.getfield 154, 3) := by decide +kernel
theorem dX12_count_156 : decode cX12_count 156 = .ok (.ireturn, 1) := by decide +kernel
theorem dX12_count_157 : decode cX12_count 157 = .ok (.aload_n 0, 1) := by decide +kernel
theorem dX12_count_158 : decode cX12_count 158 = .ok (.getfield 162, 3) := by decide +kernel
theorem dX12_count_161 : decode cX12_count 161 = .ok (.ldc 157, 2) := by decide +kernel
theorem dX12_count_163 : decode cX12_count 163 = .ok (.iadd, 1) := by decide +kernel
theorem dX12_count_164 : decode cX12_count 164 = .ok (.ireturn, 1) := by decide +kernel
theorem dX12_count_165 : decode cX12_count 165 = .ok (.aload_n 0, 1) := by decide +kernel
theorem dX12_count_166 : decode cX12_count 166 = .ok (.getfield 135, 3) := by decide +kernel
theorem dX12_count_169 : decode cX12_count 169 = .ok (.ireturn, 1) := by decide +kernel
theorem dX12_count_170 : decode cX12_count 170 = .ok (.aload_n 0, 1) := by decide +kernel
theorem dX12_count_171 : decode cX12_count 171 = .ok (.getfield 86, 3) := by decide +kernel
theorem dX12_count_174 : decode cX12_count 174 = .ok (.sipush 753, 3) := by decide +kernel
theorem dX12_count_177 : decode cX12_count 177 = .ok (.iaload, 1) := by decide +kernel
theorem dX12_count_178 : decode cX12_count 178 = .ok (.ireturn, 1) := by decide +kernel
theorem dX12_count_179 : decode cX12_count 179 = .ok (.aload_n 0, 1) := by decide +kernel
theorem dX12_count_180 : decode cX12_count 180 = .ok (.getfield 86, 3) := by decide +kernel
theorem dX12_count_183 : decode cX12_count 183 = .ok (.sipush 754, 3) := by decide +kernel
theorem dX12_count_186 : decode cX12_count 186 = .ok (.iaload, 1) := by decide +kernel
theorem dX12_count_187 : decode cX12_count 187 = .ok (.ireturn, 1) := by decide +kernel
theorem dX12_count_188 : decode cX12_count 188 = .ok (.aload_n 0, 1) := by decide +kernel
theorem dX12_count_189 : decode cX12_count 189 = .ok (.iconst 1, 1) := by decide +kernel
theorem dX12_count_190 : decode cX12_count 190 = .ok (.invokevirtual 193, 3) := by decide +kernel
theorem dX12_count_193 : decode cX12_count 193 = .ok (.ireturn, 1) := by decide +kernel
theorem dX12_count_194 : decode cX12_count 194 = .ok (.bipush (-9), 2) := by decide +kernel
theorem dX12_count_196 : decode cX12_count 196 = .ok (.ireturn, 1) := by decide +kernel
end
section
/-! ===== words, statics, the judgement ===== -/
abbrev pm_D : Type := MethodName × ByteArray × Nat × Option FieldType
def pm_G : List Cond := lw_tbl.filter goodWord
def pm_wds (md : pm_D) : List Cond := Cond.code md.1 md.2.1 md.2.2.1 md.2.2.2 :: pm_G
theorem pm_wds_in {md : pm_D} {w : Cond} (h : w ∈ pm_G) : w ∈ pm_wds md := List.mem_cons_of_mem _ h
theorem pm_good {md md' : pm_D} (hc : Cond.code md'.1 md'.2.1 md'.2.2.1 md'.2.2.2 ∈ pm_G) : GoodIn (pm_wds md) (pm_wds md') := by
  intro w hw
  have hg : w ∈ pm_G := by
    rcases List.mem_cons.mp hw with rfl | h
    · exact hc
    · exact h
  exact ⟨pm_wds_in hg, good_of_word (List.mem_filter.mp hg).2⟩
theorem pm_inG {w : Cond} (i : Nat) (h : lw_tbl[i]? = some w) (hg : goodWord w = true) : w ∈ pm_G := List.mem_filter.mpr ⟨List.mem_of_getElem? h, hg⟩
def pm_st : List (String × String × List Int) := [("PaperMill", "ROW_WHEN_NONE", [20, 4, 0]), ("PaperMill", "ROW_LEAST", [-1, -1, 0]), ("PaperMill", "ROW_GREATEST", [60, 9, 1])]
def pm_isN : Cond → Bool
  | .fieldLinkNest .. => true
  | .methodLinkNest .. => true
  | _ => false
def pm_nw : List Cond := lw_tbl.filter pm_isN
theorem pm_inN {w : Cond} (i : Nat) (h : lw_tbl[i]? = some w) (hg : pm_isN w = true) : w ∈ pm_nw := List.mem_filter.mpr ⟨List.mem_of_getElem? h, hg⟩
def pm_Sf (k : pm_K) (A : Nat → Prop) (U : State) (H : Heap) : Prop :=
  (∀ (j : Nat) (q : String × String × List Int), pm_st[j]? = some q → va_Z q.1 q.2.1 "[I" (.ref (k.2.2.2 j)) A U H ∧ va_T .int (k.2.2.2 j) q.2.2.length (fun i => .int (Int32.ofInt (q.2.2.getD i 0))) A U H) ∧ (∀ w ∈ pm_nw, va_Nw w U) ∧ (Cond.arrayOver (.array .int)).before #[] U = true
theorem pm_find {vm vm' : Vm} (h : vm.Alike vm') (f : Class → Bool) (hf : ∀ k : Class, f k.bare = f k) : vm'.classes.findIdx? f = vm.classes.findIdx? f := by
  have e : ∀ v : Vm, v.bare.classes.findIdx? f = v.classes.findIdx? f := by
    intro v
    simp only [Vm.bare, Array.findIdx?_map]
    have : f ∘ Class.bare = f := funext hf
    rw [this]
  rw [← e vm', ← e vm, h.bare_eq]
theorem pm_AO {u U : State} (hvm : u.vm.Alike U.vm) {ty : FieldType} (h : (Cond.arrayOver ty).before #[] u = true) : (Cond.arrayOver ty).before #[] U = true := by
  have e : (Cond.arrayOver ty).before #[] U = (Cond.arrayOver ty).before #[] u := by
    simp only [Cond.before, Cond.holds, Cond.value, hvm.findClass]
    congr 1
    congr 1
    funext comp
    rw [pm_find hvm _ (fun k => rfl)]
    congr 1
    funext c
    exact hvm.class_map _ (fun k r _ _ => rfl) c
  rw [e]
  exact h
theorem pm_Nw {w : Cond} (hw : pm_isN w = true) {s U : State} (hW : s.WarmedH U.vm) (h : va_Nw w s) : va_Nw w U := by
  cases w <;> first | (simp [pm_isN] at hw; done) | exact va_Nw.warmF hW h | exact va_Nw.warmM hW h
theorem pm_Sf.to {k : pm_K} {A B : Nat → Prop} {s U : State} {H : Heap} {locs : List Loc} (h : pm_Sf k A s s.heap) (hS : va_S A s.heap H locs) (hB : ∀ q, q < H.size → B q → A q) (hW : s.WarmedH U.vm) (hU : U.heap = H) : pm_Sf k B U U.heap := by
  have hvm := hW.alike
  have hk : ∀ a : Nat, a < s.heap.size → ¬ A a → H[a]? = s.heap[a]? := hS.2.1
  refine ⟨fun j q hq => ?_, fun w hw => pm_Nw (List.mem_filter.mp hw).2 hW (h.2.1 w hw), pm_AO hvm h.2.2⟩
  obtain ⟨h1, h2⟩ := h.1 j q hq
  rw [hU]
  constructor
  · obtain ⟨cf, kf, fi, f, a, cell, g1, g2, g3, g4, g5, g6, g7, g8⟩ := (h1.kept hk).moved hvm
    exact ⟨cf, kf, fi, f, a, cell, g1, g2, g3, g4, g5, g6, g7, fun z => g8 (hB a (Array.getElem?_eq_some_iff.mp g5).1 z)⟩
  · obtain ⟨cell, g1, g2, g3, g4, g5, g6, g7⟩ := (h2.kept hk).moved hvm
    exact ⟨cell, g1, g2, g3, g4, g5, g6, fun z => g7 (hB _ (Array.getElem?_eq_some_iff.mp g1).1 z)⟩
def pm_tys (k : pm_K) : List (ClassId × FieldType) := [(k.2.1, .int), (k.2.2.1, .array .int)]
/-- a contract's start -/
def pm_Pc (k : pm_K) (ad : Nat → Nat) (lay : List pm_S) (σ : pm_M) (sz : Nat) (av : List pm_V) : Array Value → State → Prop :=
  va_Pc (av.map (pm_cv ad k.2.2.2)) (fun U => U.heap.size = sz ∧ va_P k.1 vwCl (pm_W k ad lay σ) U.heap ∧ va_K k.1 vwCl (pm_tys k) U ∧ va_D (fun _ => True) (pm_W k ad lay σ) ∧ pm_Sf k (va_A (pm_W k ad lay σ) sz) U U.heap)
/-- and its end -/
def pm_Qc (k : pm_K) (ad : Nat → Nat) (n0 : Nat) (r : Option pm_V) (lay' : List pm_S) (σ' : pm_M) (A : Nat → Prop) : Array Value → State → Outcome → State → Prop := fun _ st oc t =>
  (∃ ad' : Nat → Nat, (∀ c, (c < n0 ∨ lay'.length ≤ c) → ad' c = ad c) ∧ oc = .returned (r.map (pm_cv ad' k.2.2.2)) ∧ va_P k.1 vwCl (pm_W k ad' lay' σ') t.heap ∧ va_K k.1 vwCl (pm_tys k) t ∧ va_D A (pm_W k ad' lay' σ')) ∧ va_F A st t
def pm_rm (d lo : Nat) (lay lay' : List pm_S) : Room := { frames := d, cells := lay'.length - lay.length, slots := pm_sl lay' - pm_sl lay, locals := lo }
/-- the contract: with these arguments in this world the method answers r, and the world is that -/
def pm_C (md : pm_D) (d lo : Nat) (av : List pm_V) (lay : List pm_S) (σ : pm_M) (r : Option pm_V) (lay' : List pm_S) (σ' : pm_M) : Prop :=
  (lay.length ≤ lay'.length ∧ pm_sl lay ≤ pm_sl lay') ∧ ∀ (l : Launch) (k : pm_K) (ad : Nat → Nat) (sz : Nat),
    Met l md.1 (pm_wds md) (pm_rm d lo lay lay') (pm_Pc k ad lay σ sz av) (pm_Qc k ad lay.length r lay' σ' (va_A (pm_W k ad lay σ) sz)) (lay'.length - lay.length) (pm_sl lay' - pm_sl lay) (va_A (pm_W k ad lay σ) sz)
def pm_X (md : pm_D) (k : pm_K) (A : Nat → Prop) (p : Program) (s : State) (m : MethodId) (args : Array Value) (meth : Method) (c : Code) : Prop :=
  p.tables.exec = Jvm.exec ∧ c.code = md.2.1 ∧ meth.sig.returnType = md.2.2.2 ∧ c.maxLocals = md.2.2.1 ∧ s.vm.findClass md.1.cls = some m.cls ∧ (∀ w ∈ pm_wds md, w.before args s = true) ∧ meth.locks = false ∧ meth.name = md.1.name ∧ (∀ q, s.heap.size ≤ q → A q) ∧ pm_Sf k A s s.heap ∧ va_K k.1 vwCl (pm_tys k) s
def pm_lc (ad sd : Nat → Nat) (L : List (Option pm_V)) : List (Nat × Value) := (L.mapIdx (fun i o => o.map (fun v => (i, pm_cv ad sd v)))).filterMap id
/-- at pc with these locals, this stack and this world the method comes to its end: answer r, world lay' σ' -/
def pm_J (md : pm_D) (d lo : Nat) (lay0 : List pm_S) (r : Option pm_V) (lay' : List pm_S) (σ' : pm_M) (pc : Nat) (L : List (Option pm_V)) (S : List pm_V) (lay : List pm_S) (σ : pm_M) : Prop :=
  (lay.length ≤ lay'.length ∧ pm_sl lay ≤ pm_sl lay') ∧ ∀ (p : Program) (l : Launch) (e : Env) (s : State) (m : MethodId) (args : Array Value) (below : List Frame) (meth : Method) (c : Code) (k : pm_K) (A : Nat → Prop) (ad0 ad : Nat → Nat) (H : Heap) (locs : List Loc) (ls : Array Slot),
    pm_X md k A p s m args meth c → (∀ c, (c < lay0.length ∨ lay.length ≤ c) → ad c = ad0 c) → lay0.length ≤ lay.length → pm_sl lay0 ≤ pm_sl lay →
    va_P k.1 vwCl (pm_W k ad lay σ) H → va_D A (pm_W k ad lay σ) → va_S A s.heap H locs → lv_has ls md.2.2.1 (pm_lc ad k.2.2.2 L) →
    W p l e (pm_rm d lo lay0 lay') s m args below meth c H locs (lay.length - lay0.length) (pm_sl lay - pm_sl lay0) (MQ below (pm_Qc k ad0 lay0.length r lay' σ' A) args s (lay'.length - lay0.length) (pm_sl lay' - pm_sl lay0) A) (F0 m pc ls (S.map (pm_cv ad k.2.2.2)))
theorem pm_lc_mem {ad sd : Nat → Nat} {L : List (Option pm_V)} {q : Nat × Value} : q ∈ pm_lc ad sd L ↔ ∃ v, L[q.1]? = some (some v) ∧ q.2 = pm_cv ad sd v := by
  unfold pm_lc
  simp only [List.mem_filterMap, id, exists_eq_right]
  rw [List.mem_mapIdx]
  constructor
  · rintro ⟨i, hi, h⟩
    cases ho : L[i] with
    | none => rw [ho] at h; cases h
    | some v =>
      rw [ho] at h
      cases h
      exact ⟨v, by rw [List.getElem?_eq_getElem hi, ho], rfl⟩
  · rintro ⟨v, h1, h2⟩
    obtain ⟨hi, he⟩ := List.getElem?_eq_some_iff.mp h1
    exact ⟨q.1, hi, by rw [he]; show some (q.1, pm_cv ad sd v) = some q; rw [← h2]⟩
theorem pm_lc_at {ls : Array Slot} {n : Nat} {ad sd : Nat → Nat} {L : List (Option pm_V)} (h : lv_has ls n (pm_lc ad sd L)) {i : Nat} {v : pm_V} (hi : L[i]? = some (some v)) : ls[i]? = some (.val (pm_cv ad sd v)) :=
  h.2.2 (i, pm_cv ad sd v) (pm_lc_mem.mpr ⟨v, hi, rfl⟩)
theorem pm_lc_sub {ls : Array Slot} {n : Nat} {ad sd : Nat → Nat} {L : List (Option pm_V)} {l : List (Nat × Value)} (h : lv_has ls n l) (hs : ∀ q ∈ pm_lc ad sd L, q ∈ l) : lv_has ls n (pm_lc ad sd L) := ⟨h.1, h.2.1, fun q hq => h.2.2 q (hs q hq)⟩
/-- what lies ahead of a place isn't a long -/
def pm_ok1 (L : List (Option pm_V)) (i : Nat) : Bool := match i with
  | 0 => true
  | j + 1 => match L[j]? with
    | some (some (.inr (.inl _))) => false
    | _ => true
theorem pm_ok1_spec {L : List (Option pm_V)} {j : Nat} {v : pm_V} (h : pm_ok1 L (j + 1) = true) (hv : L[j]? = some (some v)) : pm_ct v = 1 := by
  unfold pm_ok1 at h
  simp only [hv] at h
  rcases v with x | x | (_ | r) | y
  · rfl
  · simp at h
  · rfl
  · rfl
  · rfl
theorem pm_lc_set {ls' : Array Slot} {n : Nat} {ad sd : Nat → Nat} {L : List (Option pm_V)} {i : Nat} {v : pm_V} (hok : pm_ok1 L i = true)
    (h : lv_has ls' n ((i, pm_cv ad sd v) :: (pm_lc ad sd L).filter (fun q => !(q.1 == i) && !(q.1 + 1 == i && q.2.category == 2)))) : lv_has ls' n (pm_lc ad sd (L.set i (some v))) := by
  refine pm_lc_sub h (fun q hq => ?_)
  obtain ⟨u, h1, h2⟩ := pm_lc_mem.mp hq
  by_cases hi : q.1 = i
  · rw [hi] at h1
    rw [List.getElem?_set] at h1
    simp only [if_true] at h1
    split at h1
    · cases h1
      exact List.mem_cons.mpr (Or.inl (Prod.ext hi h2))
    · cases h1
  · rw [List.getElem?_set_ne (Ne.symm hi)] at h1
    refine List.mem_cons.mpr (Or.inr (List.mem_filter.mpr ⟨pm_lc_mem.mpr ⟨u, h1, h2⟩, ?_⟩))
    have e1 : (q.1 == i) = false := by simpa using hi
    rw [e1]
    by_cases hj : q.1 + 1 = i
    · subst hj
      have := pm_ok1_spec hok h1
      rw [h2, pm_ct_eq, this]
      simp
    · have e2 : (q.1 + 1 == i) = false := by simpa using hj
      rw [e2]
      rfl
theorem pm_lc_set2 {ls' : Array Slot} {n : Nat} {ad sd : Nat → Nat} {L : List (Option pm_V)} {i : Nat} {v : pm_V} (hok : pm_ok1 L i = true)
    (h : lv_has ls' n ((i, pm_cv ad sd v) :: (pm_lc ad sd L).filter (fun q => !(q.1 == i) && (!(q.1 == i + 1) && !(q.1 + 1 == i && q.2.category == 2))))) : lv_has ls' n (pm_lc ad sd ((L.set i (some v)).set (i + 1) none)) := by
  refine pm_lc_sub h (fun q hq => ?_)
  obtain ⟨u, h1, h2⟩ := pm_lc_mem.mp hq
  have hne : q.1 ≠ i + 1 := by
    intro e
    rw [e, List.getElem?_set] at h1
    simp only [if_true] at h1
    split at h1 <;> cases h1
  rw [List.getElem?_set_ne (Ne.symm hne)] at h1
  by_cases hi : q.1 = i
  · rw [hi] at h1
    rw [List.getElem?_set] at h1
    simp only [if_true] at h1
    split at h1
    · cases h1
      exact List.mem_cons.mpr (Or.inl (Prod.ext hi h2))
    · cases h1
  · rw [List.getElem?_set_ne (Ne.symm hi)] at h1
    refine List.mem_cons.mpr (Or.inr (List.mem_filter.mpr ⟨pm_lc_mem.mpr ⟨u, h1, h2⟩, ?_⟩))
    have e1 : (q.1 == i) = false := by simpa using hi
    have e3 : (q.1 == i + 1) = false := by simpa using hne
    rw [e1, e3]
    by_cases hj : q.1 + 1 = i
    · subst hj
      have := pm_ok1_spec hok h1
      rw [h2, pm_ct_eq, this]
      simp
    · have e2 : (q.1 + 1 == i) = false := by simpa using hj
      rw [e2]
      rfl
end
section
/-! ===== the rows: an instruction a row ===== -/
theorem pm_eq0 (x : Int) : Int32.ofInt x = 0 ↔ wr x = 0 := pm_eq x 0
theorem pm_lt0 (x : Int) : Int32.ofInt x < 0 ↔ wr x < 0 := pm_lt x 0
theorem pm_ge0 (x : Int) : 0 ≤ Int32.ofInt x ↔ 0 ≤ wr x := pm_le 0 x
theorem pm_gt0 (x : Int) : 0 < Int32.ofInt x ↔ 0 < wr x := pm_lt 0 x
theorem pm_le0 (x : Int) : Int32.ofInt x ≤ 0 ↔ wr x ≤ 0 := pm_le x 0
theorem pm_div (x y : Int) : Int32.ofInt x / Int32.ofInt y = Int32.ofInt (Int.tdiv (wr x) (wr y)) := by
  apply Int32.toInt_inj.mp
  rw [Int32.toInt_div]
  exact Int32.toInt_ofInt.symm
theorem pm_rem (x y : Int) : Int32.ofInt x - Int32.ofInt x / Int32.ofInt y * Int32.ofInt y = Int32.ofInt (Int.tmod (wr x) (wr y)) := by
  rw [pm_div, ← pm_ofw x, ← pm_ofw y, pm_mul, pm_sub, Int.tmod_def, Int.mul_comm]
def pm_and (x y : Int) : Int := (Int32.ofInt x &&& Int32.ofInt y).toInt
def pm_or (x y : Int) : Int := (Int32.ofInt x ||| Int32.ofInt y).toInt
def pm_shl (x y : Int) : Int := (Int32.ofInt x <<< (Int32.ofInt y &&& 31)).toInt
def pm_shr (x y : Int) : Int := (Int32.ofInt x >>> (Int32.ofInt y &&& 31)).toInt
def pm_ushr (x y : Int) : Int := ((Int32.ofInt x).toUInt32 >>> ((Int32.ofInt y).toUInt32 &&& Int32.toUInt32 31)).toInt32.toInt
theorem pm_back (x : Int32) : Int32.ofInt x.toInt = x := Int32.ofInt_toInt x
def pm_cmp (x y : Int) : Int := if wl y < wl x then 1 else if wl x = wl y then 0 else -1
theorem pm_i2l (x : Int) : (Int32.ofInt x).toInt64 = Int64.ofInt (wr x) := by
  apply Int64.toInt_inj.mp
  rw [Int32.toInt_toInt64]
  have h := wr_rng x
  exact (wl_eq (x := wr x) (by omega) (by omega)).symm
theorem pm_lcmp (x y : Int) : lg_cmp (Int64.ofInt x) (Int64.ofInt y) = Int32.ofInt (pm_cmp x y) := by
  unfold lg_cmp pm_cmp
  have e1 : (Int64.ofInt y < Int64.ofInt x) ↔ wl y < wl x := Int64.lt_iff_toInt_lt
  have e2 : (Int64.ofInt x = Int64.ofInt y) ↔ wl x = wl y := ⟨fun h => congrArg Int64.toInt h, fun h => Int64.toInt_inj.mp h⟩
  by_cases c1 : wl y < wl x
  · rw [if_pos (e1.mpr c1), if_pos c1]
    rfl
  · by_cases c2 : wl x = wl y
    · rw [if_neg (fun q => c1 (e1.mp q)), if_neg c1, if_pos (e2.mpr c2), if_pos c2]
      rfl
    · rw [if_neg (fun q => c1 (e1.mp q)), if_neg c1, if_neg (fun q => c2 (e2.mp q)), if_neg c2]
      rfl
section PR
variable {md : pm_D} {d lo : Nat} {lay0 lay lay' : List pm_S} {r : Option pm_V} {σ σ' : pm_M} {pc : Nat} {L : List (Option pm_V)} {S : List pm_V}
theorem pr_iconst {n : Int} (hd : decode md.2.1 pc = .ok (.iconst n, 1)) (kk : pm_J md d lo lay0 r lay' σ' (pc + 1) L (pv_i n :: S) lay σ) : pm_J md d lo lay0 r lay' σ' pc L (S) lay σ := ⟨kk.1, fun p l e s m args below meth c k A ad0 ad H locs ls X h1 h2 h3 hP hD hS hl => lv_iconst X.1 X.2.1 hd rfl (kk.2 p l e s m args below meth c k A ad0 ad H locs ls X h1 h2 h3 hP hD hS hl)⟩
theorem pr_bipush {n : Int} (hd : decode md.2.1 pc = .ok (.bipush n, 2)) (hv : (Int8.ofInt n).toInt32 = Int32.ofInt n) (kk : pm_J md d lo lay0 r lay' σ' (pc + 2) L (pv_i n :: S) lay σ) : pm_J md d lo lay0 r lay' σ' pc L (S) lay σ := ⟨kk.1, fun p l e s m args below meth c k A ad0 ad H locs ls X h1 h2 h3 hP hD hS hl => lv_bipush X.1 X.2.1 hd hv (kk.2 p l e s m args below meth c k A ad0 ad H locs ls X h1 h2 h3 hP hD hS hl)⟩
theorem pr_sipush {n : Int} (hd : decode md.2.1 pc = .ok (.sipush n, 3)) (hv : (Int16.ofInt n).toInt32 = Int32.ofInt n) (kk : pm_J md d lo lay0 r lay' σ' (pc + 3) L (pv_i n :: S) lay σ) : pm_J md d lo lay0 r lay' σ' pc L (S) lay σ := ⟨kk.1, fun p l e s m args below meth c k A ad0 ad H locs ls X h1 h2 h3 hP hD hS hl => lv_sipush X.1 X.2.1 hd hv (kk.2 p l e s m args below meth c k A ad0 ad H locs ls X h1 h2 h3 hP hD hS hl)⟩
theorem pr_ldc {n : Int} {idx : Nat} (hd : decode md.2.1 pc = .ok (.ldc idx, 2)) (hw : Cond.constant md.1.cls idx (Int32.ofInt n) ∈ pm_G) (kk : pm_J md d lo lay0 r lay' σ' (pc + 2) L (pv_i n :: S) lay σ) : pm_J md d lo lay0 r lay' σ' pc L (S) lay σ := ⟨kk.1, fun p l e s m args below meth c k A ad0 ad H locs ls X h1 h2 h3 hP hD hS hl => lv_ldc X.1 X.2.1 X.2.2.2.2.1 (X.2.2.2.2.2.1 _ (pm_wds_in hw)) hd (kk.2 p l e s m args below meth c k A ad0 ad H locs ls X h1 h2 h3 hP hD hS hl)⟩
theorem pr_ldcw {n : Int} {idx : Nat} (hd : decode md.2.1 pc = .ok (.ldc_w idx, 3)) (hw : Cond.constant md.1.cls idx (Int32.ofInt n) ∈ pm_G) (kk : pm_J md d lo lay0 r lay' σ' (pc + 3) L (pv_i n :: S) lay σ) : pm_J md d lo lay0 r lay' σ' pc L (S) lay σ := ⟨kk.1, fun p l e s m args below meth c k A ad0 ad H locs ls X h1 h2 h3 hP hD hS hl => lv_ldcw X.1 X.2.1 X.2.2.2.2.1 (X.2.2.2.2.2.1 _ (pm_wds_in hw)) hd (kk.2 p l e s m args below meth c k A ad0 ad H locs ls X h1 h2 h3 hP hD hS hl)⟩
theorem pr_ldc2 {n : Int} {idx : Nat} (hd : decode md.2.1 pc = .ok (.ldc2_w idx, 3)) (hw : Cond.constantLong md.1.cls idx (Int64.ofInt n) ∈ pm_G) (kk : pm_J md d lo lay0 r lay' σ' (pc + 3) L (pv_l n :: S) lay σ) : pm_J md d lo lay0 r lay' σ' pc L (S) lay σ := ⟨kk.1, fun p l e s m args below meth c k A ad0 ad H locs ls X h1 h2 h3 hP hD hS hl => lv_ldc2 X.1 X.2.1 X.2.2.2.2.1 (X.2.2.2.2.2.1 _ (pm_wds_in hw)) hd (kk.2 p l e s m args below meth c k A ad0 ad H locs ls X h1 h2 h3 hP hD hS hl)⟩
theorem pr_lconst {n : Fin 2} {z : Int} (hd : decode md.2.1 pc = .ok (.lconst n, 1)) (hv : Int64.ofNat (n : Nat) = Int64.ofInt z) (kk : pm_J md d lo lay0 r lay' σ' (pc + 1) L (pv_l z :: S) lay σ) : pm_J md d lo lay0 r lay' σ' pc L (S) lay σ := ⟨kk.1, fun p l e s m args below meth c k A ad0 ad H locs ls X h1 h2 h3 hP hD hS hl => lv_lconst X.1 X.2.1 hd hv (kk.2 p l e s m args below meth c k A ad0 ad H locs ls X h1 h2 h3 hP hD hS hl)⟩
theorem pr_iload_n {q : Fin 4} {x : Int} (hd : decode md.2.1 pc = .ok (.iload_n q, 1)) (hL : L[(q : Nat)]? = some (some (pv_i x))) (kk : pm_J md d lo lay0 r lay' σ' (pc + 1) L (pv_i x :: S) lay σ) : pm_J md d lo lay0 r lay' σ' pc L (S) lay σ := ⟨kk.1, fun p l e s m args below meth c k A ad0 ad H locs ls X h1 h2 h3 hP hD hS hl => lv_iload_n X.1 X.2.1 hd rfl (pm_lc_at hl hL) (kk.2 p l e s m args below meth c k A ad0 ad H locs ls X h1 h2 h3 hP hD hS hl)⟩
theorem pr_iload {i : Nat} {x : Int} (hd : decode md.2.1 pc = .ok (.iload i, 2)) (hL : L[i]? = some (some (pv_i x))) (kk : pm_J md d lo lay0 r lay' σ' (pc + 2) L (pv_i x :: S) lay σ) : pm_J md d lo lay0 r lay' σ' pc L (S) lay σ := ⟨kk.1, fun p l e s m args below meth c k A ad0 ad H locs ls X h1 h2 h3 hP hD hS hl => lv_iload X.1 X.2.1 hd (pm_lc_at hl hL) (kk.2 p l e s m args below meth c k A ad0 ad H locs ls X h1 h2 h3 hP hD hS hl)⟩
theorem pr_lload {i : Nat} {x : Int} (hd : decode md.2.1 pc = .ok (.lload i, 2)) (hL : L[i]? = some (some (pv_l x))) (kk : pm_J md d lo lay0 r lay' σ' (pc + 2) L (pv_l x :: S) lay σ) : pm_J md d lo lay0 r lay' σ' pc L (S) lay σ := ⟨kk.1, fun p l e s m args below meth c k A ad0 ad H locs ls X h1 h2 h3 hP hD hS hl => lv_lload X.1 X.2.1 hd (pm_lc_at hl hL) (kk.2 p l e s m args below meth c k A ad0 ad H locs ls X h1 h2 h3 hP hD hS hl)⟩
theorem pr_aload_n {q : Fin 4} {x : Nat} (hd : decode md.2.1 pc = .ok (.aload_n q, 1)) (hL : L[(q : Nat)]? = some (some (pv_r x))) (kk : pm_J md d lo lay0 r lay' σ' (pc + 1) L (pv_r x :: S) lay σ) : pm_J md d lo lay0 r lay' σ' pc L (S) lay σ := ⟨kk.1, fun p l e s m args below meth c k A ad0 ad H locs ls X h1 h2 h3 hP hD hS hl => lv_aload_n X.1 X.2.1 hd rfl (pm_lc_at hl hL) (kk.2 p l e s m args below meth c k A ad0 ad H locs ls X h1 h2 h3 hP hD hS hl)⟩
theorem pr_aload {i : Nat} {x : Nat} (hd : decode md.2.1 pc = .ok (.aload i, 2)) (hL : L[i]? = some (some (pv_r x))) (kk : pm_J md d lo lay0 r lay' σ' (pc + 2) L (pv_r x :: S) lay σ) : pm_J md d lo lay0 r lay' σ' pc L (S) lay σ := ⟨kk.1, fun p l e s m args below meth c k A ad0 ad H locs ls X h1 h2 h3 hP hD hS hl => lv_aload X.1 X.2.1 hd (pm_lc_at hl hL) (kk.2 p l e s m args below meth c k A ad0 ad H locs ls X h1 h2 h3 hP hD hS hl)⟩
theorem pr_istore_n {q : Fin 4} {x : Int} (hd : decode md.2.1 pc = .ok (.istore_n q, 1)) (hi : (q : Nat) < md.2.2.1) (hok : pm_ok1 L q = true) (kk : pm_J md d lo lay0 r lay' σ' (pc + 1) (L.set q (some (pv_i x))) (S) lay σ) : pm_J md d lo lay0 r lay' σ' pc L (pv_i x :: S) lay σ := ⟨kk.1, fun p l e s m args below meth c k A ad0 ad H locs ls X h1 h2 h3 hP hD hS hl => lv_istore_n X.1 X.2.1 hd rfl hl hi rfl (fun ls' hl' => kk.2 p l e s m args below meth c k A ad0 ad H locs ls' X h1 h2 h3 hP hD hS (pm_lc_set hok hl'))⟩
theorem pr_istore {i : Nat} {x : Int} (hd : decode md.2.1 pc = .ok (.istore i, 2)) (hi : i < md.2.2.1) (hok : pm_ok1 L i = true) (kk : pm_J md d lo lay0 r lay' σ' (pc + 2) (L.set i (some (pv_i x))) (S) lay σ) : pm_J md d lo lay0 r lay' σ' pc L (pv_i x :: S) lay σ := ⟨kk.1, fun p l e s m args below meth c k A ad0 ad H locs ls X h1 h2 h3 hP hD hS hl => lv_istore X.1 X.2.1 hd hl hi rfl (fun ls' hl' => kk.2 p l e s m args below meth c k A ad0 ad H locs ls' X h1 h2 h3 hP hD hS (pm_lc_set hok hl'))⟩
theorem pr_astore_n {q : Fin 4} {x : Nat} (hd : decode md.2.1 pc = .ok (.astore_n q, 1)) (hi : (q : Nat) < md.2.2.1) (hok : pm_ok1 L q = true) (kk : pm_J md d lo lay0 r lay' σ' (pc + 1) (L.set q (some (pv_r x))) (S) lay σ) : pm_J md d lo lay0 r lay' σ' pc L (pv_r x :: S) lay σ := ⟨kk.1, fun p l e s m args below meth c k A ad0 ad H locs ls X h1 h2 h3 hP hD hS hl => lv_astore_n X.1 X.2.1 hd rfl hl hi rfl (fun ls' hl' => kk.2 p l e s m args below meth c k A ad0 ad H locs ls' X h1 h2 h3 hP hD hS (pm_lc_set hok hl'))⟩
theorem pr_astore {i : Nat} {x : Nat} (hd : decode md.2.1 pc = .ok (.astore i, 2)) (hi : i < md.2.2.1) (hok : pm_ok1 L i = true) (kk : pm_J md d lo lay0 r lay' σ' (pc + 2) (L.set i (some (pv_r x))) (S) lay σ) : pm_J md d lo lay0 r lay' σ' pc L (pv_r x :: S) lay σ := ⟨kk.1, fun p l e s m args below meth c k A ad0 ad H locs ls X h1 h2 h3 hP hD hS hl => lv_astore X.1 X.2.1 hd hl hi rfl (fun ls' hl' => kk.2 p l e s m args below meth c k A ad0 ad H locs ls' X h1 h2 h3 hP hD hS (pm_lc_set hok hl'))⟩
theorem pr_lstore {i : Nat} {x : Int} (hd : decode md.2.1 pc = .ok (.lstore i, 2)) (hi : i + 1 < md.2.2.1) (hok : pm_ok1 L i = true) (kk : pm_J md d lo lay0 r lay' σ' (pc + 2) ((L.set i (some (pv_l x))).set (i + 1) none) (S) lay σ) : pm_J md d lo lay0 r lay' σ' pc L (pv_l x :: S) lay σ := ⟨kk.1, fun p l e s m args below meth c k A ad0 ad H locs ls X h1 h2 h3 hP hD hS hl => lv_lstore X.1 X.2.1 hd hl hi rfl (fun ls' hl' => kk.2 p l e s m args below meth c k A ad0 ad H locs ls' X h1 h2 h3 hP hD hS (pm_lc_set2 hok hl'))⟩
theorem pr_iinc {i : Nat} {n x : Int} (hd : decode md.2.1 pc = .ok (.iinc i n, 3)) (hL : L[i]? = some (some (pv_i x))) (hi : i < md.2.2.1) (hok : pm_ok1 L i = true) (kk : pm_J md d lo lay0 r lay' σ' (pc + 3) (L.set i (some (pv_i (x + n)))) S lay σ) : pm_J md d lo lay0 r lay' σ' pc L S lay σ := ⟨kk.1, fun p l e s m args below meth c k A ad0 ad H locs ls X h1 h2 h3 hP hD hS hl => by
  obtain ⟨j, hj⟩ := List.getElem?_of_mem (pm_lc_mem (q := (i, pm_cv ad k.2.2.2 (pv_i x))).mpr ⟨_, hL, rfl⟩)
  exact lv_iinc X.1 X.2.1 hd hl hj (pm_add x n) hi rfl (fun ls' hl' => kk.2 p l e s m args below meth c k A ad0 ad H locs ls' X h1 h2 h3 hP hD hS (pm_lc_set hok hl'))⟩
theorem pr_iadd {x y : Int} (hd : decode md.2.1 pc = .ok (.iadd, 1)) (kk : pm_J md d lo lay0 r lay' σ' (pc + 1) L (pv_i (x + y) :: S) lay σ) : pm_J md d lo lay0 r lay' σ' pc L (pv_i y :: pv_i x :: S) lay σ := ⟨kk.1, fun p l e s m args below meth c k A ad0 ad H locs ls X h1 h2 h3 hP hD hS hl => lv_iadd X.1 X.2.1 hd (by rw [pm_add x y]; exact kk.2 p l e s m args below meth c k A ad0 ad H locs ls X h1 h2 h3 hP hD hS hl)⟩
theorem pr_isub {x y : Int} (hd : decode md.2.1 pc = .ok (.isub, 1)) (kk : pm_J md d lo lay0 r lay' σ' (pc + 1) L (pv_i (x - y) :: S) lay σ) : pm_J md d lo lay0 r lay' σ' pc L (pv_i y :: pv_i x :: S) lay σ := ⟨kk.1, fun p l e s m args below meth c k A ad0 ad H locs ls X h1 h2 h3 hP hD hS hl => lv_isub X.1 X.2.1 hd (by rw [pm_sub x y]; exact kk.2 p l e s m args below meth c k A ad0 ad H locs ls X h1 h2 h3 hP hD hS hl)⟩
theorem pr_imul {x y : Int} (hd : decode md.2.1 pc = .ok (.imul, 1)) (kk : pm_J md d lo lay0 r lay' σ' (pc + 1) L (pv_i (x * y) :: S) lay σ) : pm_J md d lo lay0 r lay' σ' pc L (pv_i y :: pv_i x :: S) lay σ := ⟨kk.1, fun p l e s m args below meth c k A ad0 ad H locs ls X h1 h2 h3 hP hD hS hl => lv_imul X.1 X.2.1 hd (by rw [pm_mul x y]; exact kk.2 p l e s m args below meth c k A ad0 ad H locs ls X h1 h2 h3 hP hD hS hl)⟩
theorem pr_ineg {x : Int} (hd : decode md.2.1 pc = .ok (.ineg, 1)) (kk : pm_J md d lo lay0 r lay' σ' (pc + 1) L (pv_i (-x) :: S) lay σ) : pm_J md d lo lay0 r lay' σ' pc L (pv_i x :: S) lay σ := ⟨kk.1, fun p l e s m args below meth c k A ad0 ad H locs ls X h1 h2 h3 hP hD hS hl => lv_ineg X.1 X.2.1 hd (by rw [pm_neg x]; exact kk.2 p l e s m args below meth c k A ad0 ad H locs ls X h1 h2 h3 hP hD hS hl)⟩
theorem pr_idiv {x y x' y' : Int} (hd : decode md.2.1 pc = .ok (.idiv, 1)) (hx : wr x = x') (hy : wr y = y') (hn : ¬ y' = 0) (kk : pm_J md d lo lay0 r lay' σ' (pc + 1) L (pv_i (Int.tdiv x' y') :: S) lay σ) : pm_J md d lo lay0 r lay' σ' pc L (pv_i y :: pv_i x :: S) lay σ := ⟨kk.1, fun p l e s m args below meth c k A ad0 ad H locs ls X h1 h2 h3 hP hD hS hl => lv_idiv X.1 X.2.1 hd (fun q => hn (hy ▸ (pm_eq0 y).mp q)) (by rw [pm_div x y, hx, hy]; exact kk.2 p l e s m args below meth c k A ad0 ad H locs ls X h1 h2 h3 hP hD hS hl)⟩
theorem pr_irem {x y x' y' : Int} (hd : decode md.2.1 pc = .ok (.irem, 1)) (hx : wr x = x') (hy : wr y = y') (hn : ¬ y' = 0) (kk : pm_J md d lo lay0 r lay' σ' (pc + 1) L (pv_i (Int.tmod x' y') :: S) lay σ) : pm_J md d lo lay0 r lay' σ' pc L (pv_i y :: pv_i x :: S) lay σ := ⟨kk.1, fun p l e s m args below meth c k A ad0 ad H locs ls X h1 h2 h3 hP hD hS hl => lv_irem X.1 X.2.1 hd (fun q => hn (hy ▸ (pm_eq0 y).mp q)) (by rw [pm_rem x y, hx, hy]; exact kk.2 p l e s m args below meth c k A ad0 ad H locs ls X h1 h2 h3 hP hD hS hl)⟩
theorem pr_iand {x y : Int} (hd : decode md.2.1 pc = .ok (.iand, 1)) (kk : pm_J md d lo lay0 r lay' σ' (pc + 1) L (pv_i (pm_and x y) :: S) lay σ) : pm_J md d lo lay0 r lay' σ' pc L (pv_i y :: pv_i x :: S) lay σ := ⟨kk.1, fun p l e s m args below meth c k A ad0 ad H locs ls X h1 h2 h3 hP hD hS hl => lv_iand X.1 X.2.1 hd (by rw [← pm_back (Int32.ofInt x &&& Int32.ofInt y)]; exact kk.2 p l e s m args below meth c k A ad0 ad H locs ls X h1 h2 h3 hP hD hS hl)⟩
theorem pr_ior {x y : Int} (hd : decode md.2.1 pc = .ok (.ior, 1)) (kk : pm_J md d lo lay0 r lay' σ' (pc + 1) L (pv_i (pm_or x y) :: S) lay σ) : pm_J md d lo lay0 r lay' σ' pc L (pv_i y :: pv_i x :: S) lay σ := ⟨kk.1, fun p l e s m args below meth c k A ad0 ad H locs ls X h1 h2 h3 hP hD hS hl => lv_ior X.1 X.2.1 hd (by rw [← pm_back (Int32.ofInt x ||| Int32.ofInt y)]; exact kk.2 p l e s m args below meth c k A ad0 ad H locs ls X h1 h2 h3 hP hD hS hl)⟩
theorem pr_ishl {x y : Int} (hd : decode md.2.1 pc = .ok (.ishl, 1)) (kk : pm_J md d lo lay0 r lay' σ' (pc + 1) L (pv_i (pm_shl x y) :: S) lay σ) : pm_J md d lo lay0 r lay' σ' pc L (pv_i y :: pv_i x :: S) lay σ := ⟨kk.1, fun p l e s m args below meth c k A ad0 ad H locs ls X h1 h2 h3 hP hD hS hl => lv_ishl X.1 X.2.1 hd (by rw [← pm_back (Int32.ofInt x <<< (Int32.ofInt y &&& 31))]; exact kk.2 p l e s m args below meth c k A ad0 ad H locs ls X h1 h2 h3 hP hD hS hl)⟩
theorem pr_ishr {x y : Int} (hd : decode md.2.1 pc = .ok (.ishr, 1)) (kk : pm_J md d lo lay0 r lay' σ' (pc + 1) L (pv_i (pm_shr x y) :: S) lay σ) : pm_J md d lo lay0 r lay' σ' pc L (pv_i y :: pv_i x :: S) lay σ := ⟨kk.1, fun p l e s m args below meth c k A ad0 ad H locs ls X h1 h2 h3 hP hD hS hl => lv_ishr X.1 X.2.1 hd (by rw [← pm_back (Int32.ofInt x >>> (Int32.ofInt y &&& 31))]; exact kk.2 p l e s m args below meth c k A ad0 ad H locs ls X h1 h2 h3 hP hD hS hl)⟩
theorem pr_iushr {x y : Int} (hd : decode md.2.1 pc = .ok (.iushr, 1)) (kk : pm_J md d lo lay0 r lay' σ' (pc + 1) L (pv_i (pm_ushr x y) :: S) lay σ) : pm_J md d lo lay0 r lay' σ' pc L (pv_i y :: pv_i x :: S) lay σ := ⟨kk.1, fun p l e s m args below meth c k A ad0 ad H locs ls X h1 h2 h3 hP hD hS hl => lv_iushr X.1 X.2.1 hd (pm_back _).symm (kk.2 p l e s m args below meth c k A ad0 ad H locs ls X h1 h2 h3 hP hD hS hl)⟩
theorem pr_i2l {x x' : Int} (hd : decode md.2.1 pc = .ok (.i2l, 1)) (hx : wr x = x') (kk : pm_J md d lo lay0 r lay' σ' (pc + 1) L (pv_l x' :: S) lay σ) : pm_J md d lo lay0 r lay' σ' pc L (pv_i x :: S) lay σ := ⟨kk.1, fun p l e s m args below meth c k A ad0 ad H locs ls X h1 h2 h3 hP hD hS hl => lv_i2l X.1 X.2.1 hd (by rw [pm_i2l x, hx]) (kk.2 p l e s m args below meth c k A ad0 ad H locs ls X h1 h2 h3 hP hD hS hl)⟩
theorem pr_ladd {x y : Int} (hd : decode md.2.1 pc = .ok (.ladd, 1)) (kk : pm_J md d lo lay0 r lay' σ' (pc + 1) L (pv_l (x + y) :: S) lay σ) : pm_J md d lo lay0 r lay' σ' pc L (pv_l y :: pv_l x :: S) lay σ := ⟨kk.1, fun p l e s m args below meth c k A ad0 ad H locs ls X h1 h2 h3 hP hD hS hl => lv_ladd X.1 X.2.1 hd (by rw [← Int64.ofInt_add]; exact kk.2 p l e s m args below meth c k A ad0 ad H locs ls X h1 h2 h3 hP hD hS hl)⟩
theorem pr_lmul {x y : Int} (hd : decode md.2.1 pc = .ok (.lmul, 1)) (kk : pm_J md d lo lay0 r lay' σ' (pc + 1) L (pv_l (x * y) :: S) lay σ) : pm_J md d lo lay0 r lay' σ' pc L (pv_l y :: pv_l x :: S) lay σ := ⟨kk.1, fun p l e s m args below meth c k A ad0 ad H locs ls X h1 h2 h3 hP hD hS hl => lv_lmul X.1 X.2.1 hd (by rw [← Int64.ofInt_mul]; exact kk.2 p l e s m args below meth c k A ad0 ad H locs ls X h1 h2 h3 hP hD hS hl)⟩
theorem pr_lcmp {x y : Int} (hd : decode md.2.1 pc = .ok (.lcmp, 1)) (kk : pm_J md d lo lay0 r lay' σ' (pc + 1) L (pv_i (pm_cmp x y) :: S) lay σ) : pm_J md d lo lay0 r lay' σ' pc L (pv_l y :: pv_l x :: S) lay σ := ⟨kk.1, fun p l e s m args below meth c k A ad0 ad H locs ls X h1 h2 h3 hP hD hS hl => W.lcmp X.1 X.2.1 hd (by rw [pm_lcmp x y]; exact kk.2 p l e s m args below meth c k A ad0 ad H locs ls X h1 h2 h3 hP hD hS hl)⟩
theorem pr_dup {v : pm_V} (hd : decode md.2.1 pc = .ok (.dup, 1)) (hv : pm_ct v = 1) (kk : pm_J md d lo lay0 r lay' σ' (pc + 1) L (v :: v :: S) lay σ) : pm_J md d lo lay0 r lay' σ' pc L (v :: S) lay σ := ⟨kk.1, fun p l e s m args below meth c k A ad0 ad H locs ls X h1 h2 h3 hP hD hS hl => lv_dup X.1 X.2.1 hd (by rw [pm_ct_eq]; exact hv) (kk.2 p l e s m args below meth c k A ad0 ad H locs ls X h1 h2 h3 hP hD hS hl)⟩
theorem pr_pop {v : pm_V} (hd : decode md.2.1 pc = .ok (.pop, 1)) (hv : pm_ct v = 1) (kk : pm_J md d lo lay0 r lay' σ' (pc + 1) L (S) lay σ) : pm_J md d lo lay0 r lay' σ' pc L (v :: S) lay σ := ⟨kk.1, fun p l e s m args below meth c k A ad0 ad H locs ls X h1 h2 h3 hP hD hS hl => lv_pop X.1 X.2.1 hd (by rw [pm_ct_eq]; exact hv) (kk.2 p l e s m args below meth c k A ad0 ad H locs ls X h1 h2 h3 hP hD hS hl)⟩
theorem pr_dup2 {v u : pm_V} (hd : decode md.2.1 pc = .ok (.dup2, 1)) (hv : pm_ct v = 1) (hu : pm_ct u = 1) (kk : pm_J md d lo lay0 r lay' σ' (pc + 1) L (v :: u :: v :: u :: S) lay σ) : pm_J md d lo lay0 r lay' σ' pc L (v :: u :: S) lay σ := ⟨kk.1, fun p l e s m args below meth c k A ad0 ad H locs ls X h1 h2 h3 hP hD hS hl => lv_dup2_11 X.1 X.2.1 hd (by rw [pm_ct_eq]; exact hv) (by rw [pm_ct_eq]; exact hu) (kk.2 p l e s m args below meth c k A ad0 ad H locs ls X h1 h2 h3 hP hD hS hl)⟩
theorem pr_goto {off : Int} {tgt : Nat} (hd : decode md.2.1 pc = .ok (.goto off, 3)) (ht : (pc : Int) + off = (tgt : Int)) (kk : pm_J md d lo lay0 r lay' σ' (tgt) L (S) lay σ) : pm_J md d lo lay0 r lay' σ' pc L (S) lay σ := ⟨kk.1, fun p l e s m args below meth c k A ad0 ad H locs ls X h1 h2 h3 hP hD hS hl => lv_goto X.1 X.2.1 hd ht (kk.2 p l e s m args below meth c k A ad0 ad H locs ls X h1 h2 h3 hP hD hS hl)⟩
theorem pr_if_eq {x x' : Int} {off : Int} {tgt : Nat} (hd : decode md.2.1 pc = .ok (.ifCond .eq off, 3)) (hx : wr x = x') (ht : (pc : Int) + off = (tgt : Int)) (kt : x' = 0 → pm_J md d lo lay0 r lay' σ' tgt L S lay σ) (kf : ¬ x' = 0 → pm_J md d lo lay0 r lay' σ' (pc + 3) L S lay σ) : pm_J md d lo lay0 r lay' σ' pc L (pv_i x :: S) lay σ := by
  refine ⟨?_, fun p l e s m args below meth c k A ad0 ad H locs ls X h1 h2 h3 hP hD hS hl => lv_if_eq X.1 X.2.1 hd ht (fun q => (kt (hx ▸ (pm_eq0 x).mp q)).2 p l e s m args below meth c k A ad0 ad H locs ls X h1 h2 h3 hP hD hS hl) (fun q => (kf (fun z => q ((pm_eq0 x).mpr (hx ▸ z)))).2 p l e s m args below meth c k A ad0 ad H locs ls X h1 h2 h3 hP hD hS hl)⟩
  by_cases q : x' = 0
  · exact (kt q).1
  · exact (kf q).1
theorem pr_if_lt {x x' : Int} {off : Int} {tgt : Nat} (hd : decode md.2.1 pc = .ok (.ifCond .lt off, 3)) (hx : wr x = x') (ht : (pc : Int) + off = (tgt : Int)) (kt : x' < 0 → pm_J md d lo lay0 r lay' σ' tgt L S lay σ) (kf : ¬ x' < 0 → pm_J md d lo lay0 r lay' σ' (pc + 3) L S lay σ) : pm_J md d lo lay0 r lay' σ' pc L (pv_i x :: S) lay σ := by
  refine ⟨?_, fun p l e s m args below meth c k A ad0 ad H locs ls X h1 h2 h3 hP hD hS hl => lv_if_lt X.1 X.2.1 hd ht (fun q => (kt (hx ▸ (pm_lt0 x).mp q)).2 p l e s m args below meth c k A ad0 ad H locs ls X h1 h2 h3 hP hD hS hl) (fun q => (kf (fun z => q ((pm_lt0 x).mpr (hx ▸ z)))).2 p l e s m args below meth c k A ad0 ad H locs ls X h1 h2 h3 hP hD hS hl)⟩
  by_cases q : x' < 0
  · exact (kt q).1
  · exact (kf q).1
theorem pr_if_ge {x x' : Int} {off : Int} {tgt : Nat} (hd : decode md.2.1 pc = .ok (.ifCond .ge off, 3)) (hx : wr x = x') (ht : (pc : Int) + off = (tgt : Int)) (kt : 0 ≤ x' → pm_J md d lo lay0 r lay' σ' tgt L S lay σ) (kf : ¬ 0 ≤ x' → pm_J md d lo lay0 r lay' σ' (pc + 3) L S lay σ) : pm_J md d lo lay0 r lay' σ' pc L (pv_i x :: S) lay σ := by
  refine ⟨?_, fun p l e s m args below meth c k A ad0 ad H locs ls X h1 h2 h3 hP hD hS hl => lv_if_ge X.1 X.2.1 hd ht (fun q => (kt (hx ▸ (pm_ge0 x).mp q)).2 p l e s m args below meth c k A ad0 ad H locs ls X h1 h2 h3 hP hD hS hl) (fun q => (kf (fun z => q ((pm_ge0 x).mpr (hx ▸ z)))).2 p l e s m args below meth c k A ad0 ad H locs ls X h1 h2 h3 hP hD hS hl)⟩
  by_cases q : 0 ≤ x'
  · exact (kt q).1
  · exact (kf q).1
theorem pr_if_gt {x x' : Int} {off : Int} {tgt : Nat} (hd : decode md.2.1 pc = .ok (.ifCond .gt off, 3)) (hx : wr x = x') (ht : (pc : Int) + off = (tgt : Int)) (kt : 0 < x' → pm_J md d lo lay0 r lay' σ' tgt L S lay σ) (kf : ¬ 0 < x' → pm_J md d lo lay0 r lay' σ' (pc + 3) L S lay σ) : pm_J md d lo lay0 r lay' σ' pc L (pv_i x :: S) lay σ := by
  refine ⟨?_, fun p l e s m args below meth c k A ad0 ad H locs ls X h1 h2 h3 hP hD hS hl => lv_if_gt X.1 X.2.1 hd ht (fun q => (kt (hx ▸ (pm_gt0 x).mp q)).2 p l e s m args below meth c k A ad0 ad H locs ls X h1 h2 h3 hP hD hS hl) (fun q => (kf (fun z => q ((pm_gt0 x).mpr (hx ▸ z)))).2 p l e s m args below meth c k A ad0 ad H locs ls X h1 h2 h3 hP hD hS hl)⟩
  by_cases q : 0 < x'
  · exact (kt q).1
  · exact (kf q).1
theorem pr_if_le {x x' : Int} {off : Int} {tgt : Nat} (hd : decode md.2.1 pc = .ok (.ifCond .le off, 3)) (hx : wr x = x') (ht : (pc : Int) + off = (tgt : Int)) (kt : x' ≤ 0 → pm_J md d lo lay0 r lay' σ' tgt L S lay σ) (kf : ¬ x' ≤ 0 → pm_J md d lo lay0 r lay' σ' (pc + 3) L S lay σ) : pm_J md d lo lay0 r lay' σ' pc L (pv_i x :: S) lay σ := by
  refine ⟨?_, fun p l e s m args below meth c k A ad0 ad H locs ls X h1 h2 h3 hP hD hS hl => lv_if_le X.1 X.2.1 hd ht (fun q => (kt (hx ▸ (pm_le0 x).mp q)).2 p l e s m args below meth c k A ad0 ad H locs ls X h1 h2 h3 hP hD hS hl) (fun q => (kf (fun z => q ((pm_le0 x).mpr (hx ▸ z)))).2 p l e s m args below meth c k A ad0 ad H locs ls X h1 h2 h3 hP hD hS hl)⟩
  by_cases q : x' ≤ 0
  · exact (kt q).1
  · exact (kf q).1
theorem pr_if_ne {x x' : Int} {off : Int} {tgt : Nat} (hd : decode md.2.1 pc = .ok (.ifCond .ne off, 3)) (hx : wr x = x') (ht : (pc : Int) + off = (tgt : Int)) (kt : ¬ x' = 0 → pm_J md d lo lay0 r lay' σ' tgt L S lay σ) (kf : x' = 0 → pm_J md d lo lay0 r lay' σ' (pc + 3) L S lay σ) : pm_J md d lo lay0 r lay' σ' pc L (pv_i x :: S) lay σ := by
  refine ⟨?_, fun p l e s m args below meth c k A ad0 ad H locs ls X h1 h2 h3 hP hD hS hl => lv_if_ne X.1 X.2.1 hd ht (fun q => (kt (fun z => q ((pm_eq0 x).mpr (hx ▸ z)))).2 p l e s m args below meth c k A ad0 ad H locs ls X h1 h2 h3 hP hD hS hl) (fun q => (kf (hx ▸ (pm_eq0 x).mp q)).2 p l e s m args below meth c k A ad0 ad H locs ls X h1 h2 h3 hP hD hS hl)⟩
  by_cases q : x' = 0
  · exact (kf q).1
  · exact (kt q).1
theorem pr_icmp_eq {x y x' y' : Int} {off : Int} {tgt : Nat} (hd : decode md.2.1 pc = .ok (.if_icmp .eq off, 3)) (hx : wr x = x') (hy : wr y = y') (ht : (pc : Int) + off = (tgt : Int)) (kt : x' = y' → pm_J md d lo lay0 r lay' σ' tgt L S lay σ) (kf : ¬ x' = y' → pm_J md d lo lay0 r lay' σ' (pc + 3) L S lay σ) : pm_J md d lo lay0 r lay' σ' pc L (pv_i y :: pv_i x :: S) lay σ := by
  refine ⟨?_, fun p l e s m args below meth c k A ad0 ad H locs ls X h1 h2 h3 hP hD hS hl => lv_icmp_eq X.1 X.2.1 hd ht (fun q => (kt (hx ▸ hy ▸ (pm_eq x y).mp q)).2 p l e s m args below meth c k A ad0 ad H locs ls X h1 h2 h3 hP hD hS hl) (fun q => (kf (fun z => q ((pm_eq x y).mpr (hx.symm ▸ hy.symm ▸ z)))).2 p l e s m args below meth c k A ad0 ad H locs ls X h1 h2 h3 hP hD hS hl)⟩
  by_cases q : x' = y'
  · exact (kt q).1
  · exact (kf q).1
theorem pr_icmp_lt {x y x' y' : Int} {off : Int} {tgt : Nat} (hd : decode md.2.1 pc = .ok (.if_icmp .lt off, 3)) (hx : wr x = x') (hy : wr y = y') (ht : (pc : Int) + off = (tgt : Int)) (kt : x' < y' → pm_J md d lo lay0 r lay' σ' tgt L S lay σ) (kf : ¬ x' < y' → pm_J md d lo lay0 r lay' σ' (pc + 3) L S lay σ) : pm_J md d lo lay0 r lay' σ' pc L (pv_i y :: pv_i x :: S) lay σ := by
  refine ⟨?_, fun p l e s m args below meth c k A ad0 ad H locs ls X h1 h2 h3 hP hD hS hl => lv_icmp_lt X.1 X.2.1 hd ht (fun q => (kt (hx ▸ hy ▸ (pm_lt x y).mp q)).2 p l e s m args below meth c k A ad0 ad H locs ls X h1 h2 h3 hP hD hS hl) (fun q => (kf (fun z => q ((pm_lt x y).mpr (hx.symm ▸ hy.symm ▸ z)))).2 p l e s m args below meth c k A ad0 ad H locs ls X h1 h2 h3 hP hD hS hl)⟩
  by_cases q : x' < y'
  · exact (kt q).1
  · exact (kf q).1
theorem pr_icmp_ge {x y x' y' : Int} {off : Int} {tgt : Nat} (hd : decode md.2.1 pc = .ok (.if_icmp .ge off, 3)) (hx : wr x = x') (hy : wr y = y') (ht : (pc : Int) + off = (tgt : Int)) (kt : y' ≤ x' → pm_J md d lo lay0 r lay' σ' tgt L S lay σ) (kf : ¬ y' ≤ x' → pm_J md d lo lay0 r lay' σ' (pc + 3) L S lay σ) : pm_J md d lo lay0 r lay' σ' pc L (pv_i y :: pv_i x :: S) lay σ := by
  refine ⟨?_, fun p l e s m args below meth c k A ad0 ad H locs ls X h1 h2 h3 hP hD hS hl => lv_icmp_ge X.1 X.2.1 hd ht (fun q => (kt (hx ▸ hy ▸ (pm_le y x).mp q)).2 p l e s m args below meth c k A ad0 ad H locs ls X h1 h2 h3 hP hD hS hl) (fun q => (kf (fun z => q ((pm_le y x).mpr (hx.symm ▸ hy.symm ▸ z)))).2 p l e s m args below meth c k A ad0 ad H locs ls X h1 h2 h3 hP hD hS hl)⟩
  by_cases q : y' ≤ x'
  · exact (kt q).1
  · exact (kf q).1
theorem pr_icmp_gt {x y x' y' : Int} {off : Int} {tgt : Nat} (hd : decode md.2.1 pc = .ok (.if_icmp .gt off, 3)) (hx : wr x = x') (hy : wr y = y') (ht : (pc : Int) + off = (tgt : Int)) (kt : y' < x' → pm_J md d lo lay0 r lay' σ' tgt L S lay σ) (kf : ¬ y' < x' → pm_J md d lo lay0 r lay' σ' (pc + 3) L S lay σ) : pm_J md d lo lay0 r lay' σ' pc L (pv_i y :: pv_i x :: S) lay σ := by
  refine ⟨?_, fun p l e s m args below meth c k A ad0 ad H locs ls X h1 h2 h3 hP hD hS hl => lv_icmp_gt X.1 X.2.1 hd ht (fun q => (kt (hx ▸ hy ▸ (pm_lt y x).mp q)).2 p l e s m args below meth c k A ad0 ad H locs ls X h1 h2 h3 hP hD hS hl) (fun q => (kf (fun z => q ((pm_lt y x).mpr (hx.symm ▸ hy.symm ▸ z)))).2 p l e s m args below meth c k A ad0 ad H locs ls X h1 h2 h3 hP hD hS hl)⟩
  by_cases q : y' < x'
  · exact (kt q).1
  · exact (kf q).1
theorem pr_icmp_le {x y x' y' : Int} {off : Int} {tgt : Nat} (hd : decode md.2.1 pc = .ok (.if_icmp .le off, 3)) (hx : wr x = x') (hy : wr y = y') (ht : (pc : Int) + off = (tgt : Int)) (kt : x' ≤ y' → pm_J md d lo lay0 r lay' σ' tgt L S lay σ) (kf : ¬ x' ≤ y' → pm_J md d lo lay0 r lay' σ' (pc + 3) L S lay σ) : pm_J md d lo lay0 r lay' σ' pc L (pv_i y :: pv_i x :: S) lay σ := by
  refine ⟨?_, fun p l e s m args below meth c k A ad0 ad H locs ls X h1 h2 h3 hP hD hS hl => lv_icmp_le X.1 X.2.1 hd ht (fun q => (kt (hx ▸ hy ▸ (pm_le x y).mp q)).2 p l e s m args below meth c k A ad0 ad H locs ls X h1 h2 h3 hP hD hS hl) (fun q => (kf (fun z => q ((pm_le x y).mpr (hx.symm ▸ hy.symm ▸ z)))).2 p l e s m args below meth c k A ad0 ad H locs ls X h1 h2 h3 hP hD hS hl)⟩
  by_cases q : x' ≤ y'
  · exact (kt q).1
  · exact (kf q).1
theorem pr_icmp_ne {x y x' y' : Int} {off : Int} {tgt : Nat} (hd : decode md.2.1 pc = .ok (.if_icmp .ne off, 3)) (hx : wr x = x') (hy : wr y = y') (ht : (pc : Int) + off = (tgt : Int)) (kt : ¬ x' = y' → pm_J md d lo lay0 r lay' σ' tgt L S lay σ) (kf : x' = y' → pm_J md d lo lay0 r lay' σ' (pc + 3) L S lay σ) : pm_J md d lo lay0 r lay' σ' pc L (pv_i y :: pv_i x :: S) lay σ := by
  refine ⟨?_, fun p l e s m args below meth c k A ad0 ad H locs ls X h1 h2 h3 hP hD hS hl => lv_icmp_ne X.1 X.2.1 hd ht (fun q => (kt (fun z => q ((pm_eq x y).mpr (hx.symm ▸ hy.symm ▸ z)))).2 p l e s m args below meth c k A ad0 ad H locs ls X h1 h2 h3 hP hD hS hl) (fun q => (kf (hx ▸ hy ▸ (pm_eq x y).mp q)).2 p l e s m args below meth c k A ad0 ad H locs ls X h1 h2 h3 hP hD hS hl)⟩
  by_cases q : x' = y'
  · exact (kf q).1
  · exact (kt q).1
end PR
end
section
/-! ===== rows over the heap ===== -/
theorem pm_W_lay {k : pm_K} {ad : Nat → Nat} {lay : List pm_S} {σ : pm_M} {c : Nat} {S' : pm_S} : pm_W k ad (lay.set c S') σ = (pm_W k ad lay σ).set c (ad c, pm_cell k ad (σ c) S') := by
  apply List.ext_getElem?
  intro i
  unfold pm_W
  rw [List.getElem?_mapIdx]
  by_cases hi : i = c
  · subst hi
    by_cases hl : i < lay.length
    · rw [List.getElem?_set_self hl, List.getElem?_set_self (by rw [List.length_mapIdx]; exact hl)]
      rfl
    · rw [List.getElem?_eq_none (by rw [List.length_set]; omega), List.getElem?_eq_none (by rw [List.length_set, List.length_mapIdx]; omega)]
      rfl
  · rw [List.getElem?_set_ne (Ne.symm hi), List.getElem?_set_ne (Ne.symm hi), List.getElem?_mapIdx]
theorem pm_flds_up {ad : Nat → Nat} {m : Nat → Int} {fs : List pm_F} {j : Nat} {x : Int} (hf : fs[j]? = some none) : (fs.mapIdx (fun i f => pm_fld ad m i f)).set j (.int (Int32.ofInt x)) = fs.mapIdx (fun i f => pm_fld ad (fun i => if i = j then x else m i) i f) := by
  apply List.ext_getElem?
  intro i
  by_cases hi : i = j
  · subst hi
    have hl : i < fs.length := (List.getElem?_eq_some_iff.mp hf).1
    rw [List.getElem?_set_self (by rw [List.length_mapIdx]; exact hl), List.getElem?_mapIdx, hf]
    simp [pm_fld]
  · rw [List.getElem?_set_ne (Ne.symm hi), List.getElem?_mapIdx, List.getElem?_mapIdx]
    cases fs[i]? with
    | none => rfl
    | some f =>
      rcases f with _ | _ | r <;> simp [pm_fld, hi]
theorem pm_flds_set {ad : Nat → Nat} {m : Nat → Int} {fs : List pm_F} {j r : Nat} : (fs.mapIdx (fun i f => pm_fld ad m i f)).set j (.ref (ad r)) = (fs.set j (some (some r))).mapIdx (fun i f => pm_fld ad m i f) := by
  apply List.ext_getElem?
  intro i
  by_cases hi : i = j
  · subst hi
    by_cases hl : i < fs.length
    · rw [List.getElem?_set_self (by rw [List.length_mapIdx]; exact hl), List.getElem?_mapIdx, List.getElem?_set_self hl]
      rfl
    · rw [List.getElem?_eq_none (by rw [List.length_set, List.length_mapIdx]; omega), List.getElem?_eq_none (by rw [List.length_mapIdx, List.length_set]; omega)]
  · rw [List.getElem?_set_ne (Ne.symm hi), List.getElem?_mapIdx, List.getElem?_mapIdx, List.getElem?_set_ne (Ne.symm hi)]
theorem pm_up_at (σ : pm_M) (c j : Nat) (v : Int) : pm_up σ c j v c = fun i => if i = j then v else σ c i := by
  funext i
  unfold pm_up
  simp
/-- what is known of a class of ours -/
def pm_Cok (q : vw_C) : Prop := (∀ w ∈ u_ws q.1 q.2.1 q.2.2, w ∈ pm_G) ∧ (∀ a, a < q.2.2 → ∀ b, b < q.2.2 → a ≠ b → (q.2.1 a).2.1 ≠ (q.2.1 b).2.1) ∧ ∃ ty : Nat → FieldType, ∀ k, k < q.2.2 → parseFieldDescriptor (q.2.1 k).2.2.1 = some (ty k)
/-- a field by its entry of the pool: the class's number, the place -/
def pm_L (own : String) (idx ci j : Nat) : Prop := ∃ q : vw_C, vwCl[ci]? = some q ∧ pm_Cok q ∧ j < q.2.2 ∧ Cond.fieldLink own idx (q.2.1 j).1 (q.2.1 j).2.1 (q.2.1 j).2.2.1 ∈ pm_G
/-- a field that is written: final, its type -/
def pm_LP (own : String) (idx ci j : Nat) (fin : Bool) (ty : FieldType) : Prop := ∃ q : vw_C, vwCl[ci]? = some q ∧ pm_Cok q ∧ j < q.2.2 ∧ Cond.fieldLink own idx (q.2.1 j).1 (q.2.1 j).2.1 (q.2.1 j).2.2.1 ∈ pm_G ∧ (q.2.1 j).2.2.2 = fin ∧ parseFieldDescriptor (q.2.1 j).2.2.1 = some ty ∧ (fin = true → (q.2.1 j).1 = own)
section PH
variable {md : pm_D} {d lo : Nat} {lay0 lay lay' : List pm_S} {r : Option pm_V} {σ σ' : pm_M} {pc : Nat} {L : List (Option pm_V)} {S : List pm_V}
theorem pr_getI {t idx ci j : Nat} {fs : List pm_F} (hd : decode md.2.1 pc = .ok (.getfield idx, 3)) (hw : pm_L md.1.cls idx ci j) (hy : lay[t]? = some (ps_o ci fs)) (hf : fs[j]? = some none) (kk : pm_J md d lo lay0 r lay' σ' (pc + 3) L (pv_i (σ t j) :: S) lay σ) : pm_J md d lo lay0 r lay' σ' pc L (pv_r t :: S) lay σ := by
  refine ⟨kk.1, fun p l e s m args below meth c k A ad0 ad H locs ls X h1 h2 h3 hP hD hS hl => ?_⟩
  obtain ⟨q, hc, hok, hj, hlk⟩ := hw
  exact va_get (D := k.1) (ci := ci) (v := .int (Int32.ofInt (σ t j))) (C := q.1) (T := q.2.1) (N := q.2.2) X.1 X.2.1 X.2.2.2.2.2.1 (fun w h => pm_wds_in (hok.1 w h)) X.2.2.2.2.1 X.2.2.2.2.2.2.2.2.2.2 hP t (pm_W_at hy) hc j hj (X.2.2.2.2.2.1 _ (pm_wds_in hlk)) (fun _ h => h) (by rw [List.getElem?_mapIdx, hf]; rfl) hd (kk.2 p l e s m args below meth c k A ad0 ad H locs ls X h1 h2 h3 hP hD hS hl)
theorem pr_getR {t idx ci j o : Nat} {fs : List pm_F} (hd : decode md.2.1 pc = .ok (.getfield idx, 3)) (hw : pm_L md.1.cls idx ci j) (hy : lay[t]? = some (ps_o ci fs)) (hf : fs[j]? = some (some (some o))) (kk : pm_J md d lo lay0 r lay' σ' (pc + 3) L (pv_r o :: S) lay σ) : pm_J md d lo lay0 r lay' σ' pc L (pv_r t :: S) lay σ := by
  refine ⟨kk.1, fun p l e s m args below meth c k A ad0 ad H locs ls X h1 h2 h3 hP hD hS hl => ?_⟩
  obtain ⟨q, hc, hok, hj, hlk⟩ := hw
  exact va_get (D := k.1) (ci := ci) (v := .ref (ad o)) (C := q.1) (T := q.2.1) (N := q.2.2) X.1 X.2.1 X.2.2.2.2.2.1 (fun w h => pm_wds_in (hok.1 w h)) X.2.2.2.2.1 X.2.2.2.2.2.2.2.2.2.2 hP t (pm_W_at hy) hc j hj (X.2.2.2.2.2.1 _ (pm_wds_in hlk)) (fun _ h => h) (by rw [List.getElem?_mapIdx, hf]; rfl) hd (kk.2 p l e s m args below meth c k A ad0 ad H locs ls X h1 h2 h3 hP hD hS hl)
theorem pr_putT {t idx ci j : Nat} {x : Int} {fs : List pm_F} {ty : FieldType} (hd : decode md.2.1 pc = .ok (.putfield idx, 3)) (hw : pm_LP md.1.cls idx ci j false ty) (hy : lay[t]? = some (ps_o ci fs)) (hf : fs[j]? = some none) (hn : narrow ty (.int (Int32.ofInt x)) = .int (Int32.ofInt x)) (hfit : fits ty (.int (Int32.ofInt x)) = true) (kk : pm_J md d lo lay0 r lay' σ' (pc + 3) L S lay (pm_up σ t j x)) : pm_J md d lo lay0 r lay' σ' pc L (pv_i x :: pv_r t :: S) lay σ := by
  refine ⟨kk.1, fun p l e s m args below meth c k A ad0 ad H locs ls X h1 h2 h3 hP hD hS hl => ?_⟩
  obtain ⟨q, hc, ⟨hin, hnm, ty0, hty⟩, hj, hlk, hfin, hpd, -⟩ := hw
  have hlen : j < (fs.mapIdx (fun i f => pm_fld ad (σ t) i f)).length := by
    rw [List.length_mapIdx]
    exact (List.getElem?_eq_some_iff.mp hf).1
  refine va_put (D := k.1) (ci := ci) (v := .int (Int32.ofInt x)) (ty := ty) (C := q.1) (T := q.2.1) (N := q.2.2) X.1 X.2.1 X.2.2.2.2.2.1 (fun w h => pm_wds_in (hin w h)) ty0 hty hnm X.2.2.2.2.1 X.2.2.2.2.2.2.2.2.2.2 hP hD hS t (pm_W_at hy) hc j hj (X.2.2.2.2.2.1 _ (pm_wds_in hlk)) (fun _ h => h) hfin hpd hn hfit hlen hd (fun H1 locs1 hP1 hD1 hS1 => ?_)
  have e9 : pm_W k ad lay (pm_up σ t j x) = (pm_W k ad lay σ).set t (ad t, .inr (ci, (fs.mapIdx (fun i f => pm_fld ad (σ t) i f)).set j (.int (Int32.ofInt x)))) := by
    rw [pm_W_up hy, pm_flds_up hf, pm_up_at]
    rfl
  rw [← e9] at hP1 hD1
  exact kk.2 p l e s m args below meth c k A ad0 ad H1 locs1 ls X h1 h2 h3 hP1 hD1 hS1 hl
theorem pr_putI {t idx ci j : Nat} {x : Int} {fs : List pm_F} (hd : decode md.2.1 pc = .ok (.putfield idx, 3)) (hw : pm_LP md.1.cls idx ci j false .int) (hy : lay[t]? = some (ps_o ci fs)) (hf : fs[j]? = some none) (kk : pm_J md d lo lay0 r lay' σ' (pc + 3) L S lay (pm_up σ t j x)) : pm_J md d lo lay0 r lay' σ' pc L (pv_i x :: pv_r t :: S) lay σ := pr_putT hd hw hy hf rfl rfl kk
theorem pr_putZ {t idx ci j : Nat} {x : Int} {fs : List pm_F} (hd : decode md.2.1 pc = .ok (.putfield idx, 3)) (hw : pm_LP md.1.cls idx ci j false .boolean) (hy : lay[t]? = some (ps_o ci fs)) (hf : fs[j]? = some none) (hz : x = 0 ∨ x = 1) (kk : pm_J md d lo lay0 r lay' σ' (pc + 3) L S lay (pm_up σ t j x)) : pm_J md d lo lay0 r lay' σ' pc L (pv_i x :: pv_r t :: S) lay σ := by
  rcases hz with rfl | rfl
  · exact pr_putT hd hw hy hf (by decide) (by decide) kk
  · exact pr_putT hd hw hy hf (by decide) (by decide) kk
theorem pr_putR {t idx ci j o : Nat} {fs : List pm_F} {ty : FieldType} (hd : decode md.2.1 pc = .ok (.putfield idx, 3)) (hw : pm_LP md.1.cls idx ci j true ty) (hini : md.1.name = "<init>") (hr : (∃ n, ty = .object n) ∨ ∃ n, ty = .array n) (hy : lay[t]? = some (ps_o ci fs)) (hj : j < fs.length) (kk : pm_J md d lo lay0 r lay' σ' (pc + 3) L S (lay.set t (ps_o ci (fs.set j (some (some o))))) σ) : pm_J md d lo lay0 r lay' σ' pc L (pv_r o :: pv_r t :: S) lay σ := by
  have hs : pm_sl (lay.set t (ps_o ci (fs.set j (some (some o))))) = pm_sl lay := by
    unfold pm_sl
    congr 1
    apply List.ext_getElem?
    intro i
    rw [List.getElem?_map, List.getElem?_map]
    by_cases hi : i = t
    · subst hi
      rw [List.getElem?_set_self (List.getElem?_eq_some_iff.mp hy).1, hy]
      simp [pm_sz]
    · rw [List.getElem?_set_ne (Ne.symm hi)]
  have hlen : (lay.set t (ps_o ci (fs.set j (some (some o))))).length = lay.length := List.length_set
  have hm := kk.1
  rw [hs, hlen] at hm
  refine ⟨hm, fun p l e s m args below meth c k A ad0 ad H locs ls X h1 h2 h3 hP hD hS hl => ?_⟩
  obtain ⟨q, hc, ⟨hin, hnm, ty0, hty⟩, hjq, hlk, hfin, hpd, hown⟩ := hw
  have hlen2 : j < (fs.mapIdx (fun i f => pm_fld ad (σ t) i f)).length := by
    rw [List.length_mapIdx]
    exact hj
  have hn : narrow ty (.ref (ad o)) = .ref (ad o) := by
    rcases hr with ⟨n, rfl⟩ | ⟨n, rfl⟩ <;> rfl
  have hfit : fits ty (.ref (ad o)) = true := by
    rcases hr with ⟨n, rfl⟩ | ⟨n, rfl⟩ <;> rfl
  refine va_putF (D := k.1) (ci := ci) (v := .ref (ad o)) (ty := ty) (C := q.1) (T := q.2.1) (N := q.2.2) X.1 X.2.1 X.2.2.2.2.2.1 (fun w h => pm_wds_in (hin w h)) ty0 hty hnm X.2.2.2.2.1 X.2.2.2.2.2.2.2.2.2.2 hP hD hS t (pm_W_at hy) hc j hjq (X.2.2.2.2.2.1 _ (pm_wds_in hlk)) (fun _ h => h) hfin (X.2.2.2.2.2.2.2.1.trans hini) (hown rfl) hpd hn hfit hlen2 hd (fun H1 locs1 hP1 hD1 hS1 => ?_)
  have e9 : pm_W k ad (lay.set t (ps_o ci (fs.set j (some (some o))))) σ = (pm_W k ad lay σ).set t (ad t, .inr (ci, (fs.mapIdx (fun i f => pm_fld ad (σ t) i f)).set j (.ref (ad o)))) := by
    rw [pm_W_lay, pm_flds_set]
    rfl
  rw [← e9] at hP1 hD1
  have kx := kk.2 p l e s m args below meth c k A ad0 ad H1 locs1 ls X (by rw [hlen]; exact h1) (by rw [hlen]; exact h2) (by rw [hs]; exact h3) hP1 hD1 hS1 hl
  rw [hlen, hs] at kx
  exact kx
theorem pr_iald {a n : Nat} {i i' : Int} (hd : decode md.2.1 pc = .ok (.iaload, 1)) (hy : lay[a]? = some (ps_a n)) (hx : wr i = i') (hi : 0 ≤ i' ∧ i' < n) (kk : pm_J md d lo lay0 r lay' σ' (pc + 1) L (pv_i (σ a i'.toNat) :: S) lay σ) : pm_J md d lo lay0 r lay' σ' pc L (pv_i i :: pv_r a :: S) lay σ := by
  subst hx
  refine ⟨kk.1, fun p l e s m args below meth c k A ad0 ad H locs ls X h1 h2 h3 hP hD hS hl => ?_⟩
  exact va_iald (D := k.1) X.1 X.2.1 X.2.2.2.2.2.2.2.2.2.2 hP a 0 (pm_W_at hy) rfl (pm_in hi.1 hi.2) hd (kk.2 p l e s m args below meth c k A ad0 ad H locs ls X h1 h2 h3 hP hD hS hl)
theorem pr_iast {a n : Nat} {i i' x : Int} (hd : decode md.2.1 pc = .ok (.iastore, 1)) (hy : lay[a]? = some (ps_a n)) (hx : wr i = i') (hi : 0 ≤ i' ∧ i' < n) (kk : pm_J md d lo lay0 r lay' σ' (pc + 1) L S lay (pm_up σ a i'.toNat x)) : pm_J md d lo lay0 r lay' σ' pc L (pv_i x :: pv_i i :: pv_r a :: S) lay σ := by
  subst hx
  refine ⟨kk.1, fun p l e s m args below meth c k A ad0 ad H locs ls X h1 h2 h3 hP hD hS hl => ?_⟩
  refine va_iast (D := k.1) X.1 X.2.1 X.2.2.2.2.2.2.2.2.2.2 hP hD hS a 0 (pm_W_at hy) rfl (pm_in hi.1 hi.2) hd (fun H1 locs1 hP1 hD1 hS1 => ?_)
  have e9 : pm_W k ad lay (pm_up σ a (wr i).toNat x) = (pm_W k ad lay σ).set a (ad a, .inl (k.2.1, n, .inl (upd (fun i => Int32.ofInt (σ a i)) (Int32.ofInt i).toNatClampNeg (Int32.ofInt x)))) := by
    rw [pm_W_up hy, pm_up_at]
    have e8 : (fun i_1 => Int32.ofInt (if i_1 = (wr i).toNat then x else σ a i_1)) = upd (fun i => Int32.ofInt (σ a i)) (Int32.ofInt i).toNatClampNeg (Int32.ofInt x) := by
      funext j
      unfold upd
      rw [pm_cl]
      split <;> rfl
    rw [← e8]
    rfl
  rw [← e9] at hP1 hD1
  exact kk.2 p l e s m args below meth c k A ad0 ad H1 locs1 ls X h1 h2 h3 hP1 hD1 hS1 hl
theorem pr_alen {a n : Nat} (hd : decode md.2.1 pc = .ok (.arraylength, 1)) (hy : lay[a]? = some (ps_a n)) (kk : pm_J md d lo lay0 r lay' σ' (pc + 1) L (pv_i n :: S) lay σ) : pm_J md d lo lay0 r lay' σ' pc L (pv_r a :: S) lay σ := by
  refine ⟨kk.1, fun p l e s m args below meth c k A ad0 ad H locs ls X h1 h2 h3 hP hD hS hl => ?_⟩
  exact va_alen (D := k.1) X.1 X.2.1 X.2.2.2.2.2.2.2.2.2.2 hP a 0 (pm_W_at hy) (ty := .int) rfl (v := Int32.ofInt n) rfl hd (kk.2 p l e s m args below meth c k A ad0 ad H locs ls X h1 h2 h3 hP hD hS hl)
theorem pr_aald {a o : Nat} {rs : List Nat} {i i' : Int} (hd : decode md.2.1 pc = .ok (.aaload, 1)) (hy : lay[a]? = some (ps_q rs)) (hx : wr i = i') (h0 : 0 ≤ i') (hi : rs[i'.toNat]? = some o) (kk : pm_J md d lo lay0 r lay' σ' (pc + 1) L (pv_r o :: S) lay σ) : pm_J md d lo lay0 r lay' σ' pc L (pv_i i :: pv_r a :: S) lay σ := by
  subst hx
  refine ⟨kk.1, fun p l e s m args below meth c k A ad0 ad H locs ls X h1 h2 h3 hP hD hS hl => ?_⟩
  have hlt : (wr i).toNat < rs.length := (List.getElem?_eq_some_iff.mp hi).1
  have hin : vp_in (Int32.ofInt i) rs.length := pm_in h0 (by omega)
  refine W.aald (v := .ref (ad o)) (ty := .array .int) X.1 X.2.1 (hP a _ (pm_W_at hy)) ((X.2.2.2.2.2.2.2.2.2.2.2 1 (k.2.2.1, .array .int) rfl).1 rs.length (fun j => va_rf ((rs[j]?).map ad))) rfl (fun q => by cases q) (by show ¬ (Int32.ofInt i < 0 ∨ (arrV _ _ _).slots.size ≤ _); rw [arrV_size]; exact hin) (by show (arrV _ _ _).slots[_]? = _; rw [arrV_read _ _ (show (Int32.ofInt i).toNatClampNeg < rs.length from hlt)]; show some (va_rf ((rs[(wr i).toNat]?).map ad)) = _; rw [hi]; rfl) rfl rfl hd (kk.2 p l e s m args below meth c k A ad0 ad H locs ls X h1 h2 h3 hP hD hS hl)
theorem pr_gets {idx j : Nat} {q : String × String × List Int} (hd : decode md.2.1 pc = .ok (.getstatic idx, 3)) (hq : pm_st[j]? = some q) (hw : Cond.fieldLink md.1.cls idx q.1 q.2.1 "[I" ∈ pm_G) (kk : pm_J md d lo lay0 r lay' σ' (pc + 3) L (pv_s j :: S) lay σ) : pm_J md d lo lay0 r lay' σ' pc L S lay σ := by
  refine ⟨kk.1, fun p l e s m args below meth c k A ad0 ad H locs ls X h1 h2 h3 hP hD hS hl => ?_⟩
  exact va_gets X.1 X.2.1 (X.2.2.2.2.2.2.2.2.2.1.1 j q hq).1 hS X.2.2.2.2.1 (X.2.2.2.2.2.1 _ (pm_wds_in hw)) (fun _ h => h) hd (kk.2 p l e s m args below meth c k A ad0 ad H locs ls X h1 h2 h3 hP hD hS hl)
theorem pr_getsN {idx j : Nat} {q : String × String × List Int} {host : String} (hd : decode md.2.1 pc = .ok (.getstatic idx, 3)) (hq : pm_st[j]? = some q) (hw : Cond.fieldLinkNest md.1.cls idx q.1 q.2.1 "[I" host ∈ pm_nw) (kk : pm_J md d lo lay0 r lay' σ' (pc + 3) L (pv_s j :: S) lay σ) : pm_J md d lo lay0 r lay' σ' pc L S lay σ := by
  refine ⟨kk.1, fun p l e s m args below meth c k A ad0 ad H locs ls X h1 h2 h3 hP hD hS hl => ?_⟩
  exact va_getsN X.1 X.2.1 (X.2.2.2.2.2.2.2.2.2.1.1 j q hq).1 hS X.2.2.2.2.1 (va_Nw.use rfl (X.2.2.2.2.2.2.2.2.2.1.2.1 _ hw)) (fun _ h => h) hd (kk.2 p l e s m args below meth c k A ad0 ad H locs ls X h1 h2 h3 hP hD hS hl)
theorem pr_sald {j : Nat} {q : String × String × List Int} {i i' : Int} (hd : decode md.2.1 pc = .ok (.iaload, 1)) (hq : pm_st[j]? = some q) (hx : wr i = i') (hi : 0 ≤ i' ∧ i' < q.2.2.length) (kk : pm_J md d lo lay0 r lay' σ' (pc + 1) L (pv_i (q.2.2.getD i'.toNat 0) :: S) lay σ) : pm_J md d lo lay0 r lay' σ' pc L (pv_i i :: pv_s j :: S) lay σ := by
  subst hx
  refine ⟨kk.1, fun p l e s m args below meth c k A ad0 ad H locs ls X h1 h2 h3 hP hD hS hl => ?_⟩
  exact va_ti X.1 X.2.1 (X.2.2.2.2.2.2.2.2.2.1.1 j q hq).2 hS (pm_in hi.1 hi.2) rfl hd (kk.2 p l e s m args below meth c k A ad0 ad H locs ls X h1 h2 h3 hP hD hS hl)
theorem pr_tsIn {dflt lw hi : Int} {offs : Array Int} {len : Nat} {x x' off : Int} {j tgt : Nat} (hd : decode md.2.1 pc = .ok (.tableswitch dflt lw hi offs, len)) (hx : wr x = x') (hj : x' = lw + j) (hh : lw + j ≤ hi) (ho : offs[j]? = some off) (ht : (pc : Int) + off = (tgt : Int)) (kk : pm_J md d lo lay0 r lay' σ' tgt L S lay σ) : pm_J md d lo lay0 r lay' σ' pc L (pv_i x :: S) lay σ := by
  subst hx
  refine ⟨kk.1, fun p l e s m args below meth c k A ad0 ad H locs ls X h1 h2 h3 hP hD hS hl => ?_⟩
  have e9 : (Int32.ofInt x).toInt = lw + j := hj
  exact lv_tableIn X.1 X.2.1 hd (by rw [e9]; omega) (by rw [e9]; omega) (by rw [e9, show (lw + (j : Int) - lw).toNat = j by omega]; exact ho) ht (kk.2 p l e s m args below meth c k A ad0 ad H locs ls X h1 h2 h3 hP hD hS hl)
theorem pr_tsOut {dflt lw hi : Int} {offs : Array Int} {len : Nat} {x x' : Int} {tgt : Nat} (hd : decode md.2.1 pc = .ok (.tableswitch dflt lw hi offs, len)) (hx : wr x = x') (hh : x' < lw ∨ hi < x') (ht : (pc : Int) + dflt = (tgt : Int)) (kk : pm_J md d lo lay0 r lay' σ' tgt L S lay σ) : pm_J md d lo lay0 r lay' σ' pc L (pv_i x :: S) lay σ := by
  subst hx
  refine ⟨kk.1, fun p l e s m args below meth c k A ad0 ad H locs ls X h1 h2 h3 hP hD hS hl => ?_⟩
  exact lv_tableOut X.1 X.2.1 hd hh ht (kk.2 p l e s m args below meth c k A ad0 ad H locs ls X h1 h2 h3 hP hD hS hl)
end PH
end
section
/-! ===== returns, entry, calls ===== -/
section PE
variable {md : pm_D} {d lo : Nat} {lay0 lay lay' : List pm_S} {r : Option pm_V} {σ σ' : pm_M} {pc : Nat} {L : List (Option pm_V)} {S : List pm_V}
theorem pr_iret {x : Int} (hd : decode md.2.1 pc = .ok (.ireturn, 1)) (hr : md.2.2.2 = some .int) : pm_J md d lo lay0 (some (pv_i x)) lay σ pc L [pv_i x] lay σ := by
  refine ⟨⟨Nat.le_refl _, Nat.le_refl _⟩, fun p l e s m args below meth c k A ad0 ad H locs ls X h1 h2 h3 hP hD hS hl => ?_⟩
  exact W.iret X.1 X.2.1 (X.2.2.1.trans hr) (fun t ht hW => ⟨⟨ad, h1, rfl, by rw [ht]; exact hP, va_K.moved hW.alike X.2.2.2.2.2.2.2.2.2.2, hD⟩, hS.F ht⟩) hS.2.2 hd X.2.2.2.2.2.2.1
theorem pr_zret {x : Int} (hd : decode md.2.1 pc = .ok (.ireturn, 1)) (hr : md.2.2.2 = some .boolean) (hz : x = 0 ∨ x = 1) : pm_J md d lo lay0 (some (pv_i x)) lay σ pc L [pv_i x] lay σ := by
  refine ⟨⟨Nat.le_refl _, Nat.le_refl _⟩, fun p l e s m args below meth c k A ad0 ad H locs ls X h1 h2 h3 hP hD hS hl => ?_⟩
  have hn : narrow .boolean (.int (Int32.ofInt x)) = .int (Int32.ofInt x) := by
    rcases hz with rfl | rfl <;> decide
  exact W.zret X.1 X.2.1 (X.2.2.1.trans hr) hn (fun t ht hW => ⟨⟨ad, h1, rfl, by rw [ht]; exact hP, va_K.moved hW.alike X.2.2.2.2.2.2.2.2.2.2, hD⟩, hS.F ht⟩) hS.2.2 hd X.2.2.2.2.2.2.1
theorem pr_vret (hd : decode md.2.1 pc = .ok (.return_, 1)) (hr : md.2.2.2 = none) : pm_J md d lo lay0 none lay σ pc L [] lay σ := by
  refine ⟨⟨Nat.le_refl _, Nat.le_refl _⟩, fun p l e s m args below meth c k A ad0 ad H locs ls X h1 h2 h3 hP hD hS hl => ?_⟩
  exact W.vret X.1 X.2.1 (X.2.2.1.trans hr) (fun t ht hW => ⟨⟨ad, h1, rfl, by rw [ht]; exact hP, va_K.moved hW.alike X.2.2.2.2.2.2.2.2.2.2, hD⟩, hS.F ht⟩) hS.2.2 hd X.2.2.2.2.2.2.1
end PE
theorem pm_args (vs : List Value) (h : ∀ v ∈ vs, v.category = 1) : ∀ (i j : Nat) (v : Value), vs[j]? = some v → (i + j, v) ∈ lv_args i vs := by
  induction vs with
  | nil => intro i j v hv; cases hv
  | cons w vs ih =>
    intro i j v hv
    have hc : w.category = 1 := h w List.mem_cons_self
    unfold lv_args
    cases j with
    | zero => cases hv; exact List.mem_cons_self
    | succ j =>
      refine List.mem_cons_of_mem _ ?_
      have h2 := ih (fun v hv => h v (List.mem_cons_of_mem _ hv)) (i + 1) j v hv
      rw [if_neg (by rw [hc]; decide)]
      rw [show i + (j + 1) = i + 1 + j by omega]
      exact h2
def pm_in0 (av : List pm_V) (n : Nat) : List (Option pm_V) := av.map some ++ List.replicate (n - av.length) none
theorem pm_sl1 (vs : List Value) (h : ∀ v ∈ vs, v.category = 1) : (lg_sl vs).length = vs.length := by
  induction vs with
  | nil => rfl
  | cons w vs ih =>
    have hc : w.category = 1 := h w List.mem_cons_self
    have h2 := ih (fun v hv => h v (List.mem_cons_of_mem _ hv))
    simp only [lg_sl, List.flatMap_cons, List.length_append, List.length_cons] at h2 ⊢
    rw [h2, if_neg (by rw [hc]; decide)]
    simp [Nat.add_comm]
theorem pm_C.of {md : pm_D} {d lo : Nat} {av : List pm_V} {lay lay' : List pm_S} {σ σ' : pm_M} {r : Option pm_V} (hpl : plainName md.1.cls = true) (hc : av.all (fun v => pm_ct v == 1) = true) (hn : av.length ≤ md.2.2.1)
    (h : pm_J md d lo lay r lay' σ' 0 (pm_in0 av md.2.2.1) [] lay σ) : pm_C md d lo av lay σ r lay' σ' := by
  refine ⟨h.1, fun l k ad sz => ?_⟩
  refine Met.ofW (cc := md.2.1) (maxL := md.2.2.1) (ret := md.2.2.2) hpl rfl ?_
  intro p e s m args below meth c s₁ B hml hv
  obtain ⟨rfl, hsz, hP, hK, hD0, hSf⟩ := hv
  have hts := atoms_spec (ws := pm_wds md) B.pre
  subst hsz
  have hcat : ∀ v ∈ av.map (pm_cv ad k.2.2.2), v.category = 1 := by
    intro v hv
    obtain ⟨u, hu, rfl⟩ := List.mem_map.mp hv
    rw [pm_ct_eq]
    simpa using List.all_eq_true.mp hc u hu
  have hl := lv_entry (av.map (pm_cv ad k.2.2.2)) (n := md.2.2.1) (by rw [pm_sl1 _ hcat, List.length_map]; exact hn)
  rw [lg_entry_eq]
  generalize (lg_sl (av.map (pm_cv ad k.2.2.2)) ++ List.replicate (md.2.2.1 - (lg_sl (av.map (pm_cv ad k.2.2.2))).length) Slot.unset).toArray = ls at hl ⊢
  have hl2 : lv_has ls md.2.2.1 (pm_lc ad k.2.2.2 (pm_in0 av md.2.2.1)) := by
    refine pm_lc_sub hl (fun q hq => ?_)
    obtain ⟨v, h1, h2⟩ := pm_lc_mem.mp hq
    unfold pm_in0 at h1
    by_cases hi : q.1 < av.length
    · rw [List.getElem?_append_left (by rw [List.length_map]; exact hi), List.getElem?_map] at h1
      have h3 := pm_args (av.map (pm_cv ad k.2.2.2)) hcat 0 q.1 q.2 (by
        rw [List.getElem?_map]
        cases ha : av[q.1]? with
        | none => rw [ha] at h1; cases h1
        | some u =>
          rw [ha] at h1
          have : u = v := Option.some.inj (Option.some.inj h1)
          subst this
          rw [h2]
          rfl)
      rw [Nat.zero_add] at h3
      exact h3
    · rw [List.getElem?_append_right (by rw [List.length_map]; omega)] at h1
      have := List.eq_of_mem_replicate (List.mem_of_getElem? h1)
      cases this
  have hX : pm_X md k (va_A (pm_W k ad lay σ) s.heap.size) p s m (av.map (pm_cv ad k.2.2.2)).toArray meth c := ⟨B.exec, B.bytes, B.returns, hml, findClass_of_methodNamed B.named, hts, B.notSynchronized, (name_of_methodNamed B.named B.method).1, fun q h => Or.inr h, hSf, hK⟩
  have hw := h.2 p l e s m (av.map (pm_cv ad k.2.2.2)).toArray below meth c k (va_A (pm_W k ad lay σ) s.heap.size) ad ad s.heap [] ls hX (fun _ _ => rfl) (Nat.le_refl _) (Nat.le_refl _) hP hD0.self va_S.rf hl2
  rw [Nat.sub_self, Nat.sub_self] at hw
  exact hw
theorem pm_Sf.vm {k : pm_K} {A : Nat → Prop} {U U' : State} {H : Heap} (h : pm_Sf k A U H) (e : U.vm = U'.vm) : pm_Sf k A U' H := by
  have hal : U.vm.Alike U'.vm := by rw [e]; exact Vm.Alike.refl _
  exact ⟨fun j q hq => ⟨(h.1 j q hq).1.moved hal, (h.1 j q hq).2.moved hal⟩, fun w hw => va_Nw.same (by have := (List.mem_filter.mp hw).2; revert this; cases w <;> first | (intro z; rfl) | (intro z; simp [pm_isN] at z)) e (h.2.1 w hw), pm_AO hal h.2.2⟩
theorem pm_blind {k : pm_K} {ad : Nat → Nat} {lay : List pm_S} {σ : pm_M} {sz : Nat} {av : List pm_V} : FrameBlind (pm_Pc k ad lay σ sz av) := by
  intro a U g mk q
  obtain ⟨q0, q1, qP, qK, qD, qS⟩ := q
  exact ⟨q0, q1, qP, va_K.moved (u := U) (U := U.calling g mk a) (Vm.Alike.refl U.vm) qK, qD, pm_Sf.vm (U' := U.calling g mk a) qS rfl⟩
/-! a call: the contract's end, and what stands behind it -/
theorem pm_call {p : Program} {l : Launch} {e : Env} {R : Room} {s : State} {m : MethodId} {args : Array Value} {below : List Frame} {meth : Method} {c : Code} {H : Heap} {locs : List Loc} {cells slots : Nat} {Q : State → Prop} {pc : Nat} {ls : Array Slot} {rest st0 : List Value} {a : Array Value} {A A1 free : Nat → Prop} {mc ms n0 : Nat} {k : pm_K} {ad : Nat → Nat} {r2 : Option pm_V} {lay2 : List pm_S} {σ2 : pm_M}
    (hr : va_Run p l e R s m args below meth c H locs cells slots mc ms (F0 m pc ls st0) rest (pm_Qc k ad n0 r2 lay2 σ2 A1 a) free) (hS : va_S A s.heap H locs) (hA : ∀ q, q < H.size → A1 q → A q) (hf : ∀ q, free q → A q)
    (kk : ∀ (ad' : Nat → Nat) (H1 : Heap) (locs1 : List Loc), (∀ c, (c < n0 ∨ lay2.length ≤ c) → ad' c = ad c) → va_P k.1 vwCl (pm_W k ad' lay2 σ2) H1 → va_D A1 (pm_W k ad' lay2 σ2) → va_S A s.heap H1 locs1 → W p l e R s m args below meth c H1 locs1 (cells + mc) (slots + ms) Q (F0 m (pc + 3) ls ((r2.map (pm_cv ad' k.2.2.2)).toList ++ rest))) : W p l e R s m args below meth c H locs cells slots Q (F0 m pc ls st0) := by
  intro T hT X
  obtain ⟨v, st₀, t, T', L, h0, X', hL, e1, e2, ⟨⟨ad', had, hv, hP1, hK1, hD1⟩, hz, hk⟩, st⟩ := hr T hT X
  cases hv
  rw [h0] at hz hk
  obtain ⟨t2, a1, b1⟩ := kk ad' T'.heap (locs ++ L) had (by rw [e1]; exact hP1) hD1
    ⟨Nat.le_trans hS.1 (by rw [e1]; exact hz), fun q h1 h2 => by rw [e1, hk q (Nat.lt_of_lt_of_le h1 hS.1) (fun z => h2 (hA q (Nat.lt_of_lt_of_le h1 hS.1) z))]; exact hS.2.1 q h1 h2, fun q hq => by
      rcases List.mem_append.mp hq with h | h
      · exact hS.2.2 q h
      · exact hf _ (hL q h)⟩ T' rfl X'
  exact ⟨t2, st t2 a1, b1⟩
/-- a method by its entry of the pool -/
def pm_MB (md2 : pm_D) (n : Nat) : Prop := Cond.initialized md2.1.cls ∈ pm_G ∧ Cond.code md2.1 md2.2.1 md2.2.2.1 md2.2.2.2 ∈ pm_G ∧ (md2.1.cls ≠ "java/lang/invoke/MethodHandle" ∧ md2.1.cls ≠ "java/lang/invoke/VarHandle" ∧ (parseMethodDescriptor md2.1.desc).map (fun d => d.parameters.length) = some n)
def pm_MV (own : String) (idx : Nat) (md2 : pm_D) (n : Nat) : Prop := pm_MB md2 n ∧ Cond.methodLink own idx md2.1 ∈ pm_G ∧ Cond.instanceMethod md2.1 ∈ pm_G ∧ Cond.selects md2.1.cls md2.1 md2.1 ∈ pm_G
def pm_MS (own : String) (idx : Nat) (md2 : pm_D) (n : Nat) : Prop := pm_MB md2 n ∧ Cond.methodLink own idx md2.1 ∈ pm_G ∧ Cond.static md2.1 ∈ pm_G
def pm_MSN (own : String) (idx : Nat) (md2 : pm_D) (n : Nat) : Prop := pm_MB md2 n ∧ (∃ host, Cond.methodLinkNest own idx md2.1 host ∈ pm_nw) ∧ Cond.static md2.1 ∈ pm_G
def pm_MI (own : String) (idx : Nat) (md2 : pm_D) (n : Nat) : Prop := pm_MB md2 n ∧ Cond.methodLink own idx md2.1 ∈ pm_G ∧ Cond.instanceMethod md2.1 ∈ pm_G ∧ md2.1.name = "<init>" ∧ md2.2.2.2 = none
def pm_MIN (own : String) (idx : Nat) (md2 : pm_D) (n : Nat) : Prop := pm_MB md2 n ∧ (∃ host, Cond.methodLinkNest own idx md2.1 host ∈ pm_nw) ∧ Cond.instanceMethod md2.1 ∈ pm_G ∧ md2.1.name = "<init>" ∧ md2.2.2.2 = none
theorem pm_cats (ad sd : Nat → Nat) (S : List pm_V) : ((S.map (pm_cv ad sd)).map fun v => v.category).sum = (S.map pm_ct).sum := by
  rw [List.map_map]
  congr 1
  apply List.map_congr_left
  intro v _
  exact pm_ct_eq ad sd v
/-- references below n -/
def pm_bel (n : Nat) (v : pm_V) : Bool := match v with
  | .inr (.inr (.inl (some c))) => decide (c < n)
  | _ => true
theorem pm_bel_eq {n : Nat} {ad ad' sd : Nat → Nat} (h : ∀ c, c < n → ad' c = ad c) {v : pm_V} (hv : pm_bel n v = true) : pm_cv ad' sd v = pm_cv ad sd v := by
  rcases v with x | x | (_ | c) | j
  · rfl
  · rfl
  · rfl
  · show Value.ref (ad' c) = Value.ref (ad c)
    rw [h c (by simpa [pm_bel] using hv)]
  · rfl
/-- locals and stack look at old cells alone -/
def pm_wf (n : Nat) (L : List (Option pm_V)) (S : List pm_V) : Bool := S.all (pm_bel n) && L.all (fun o => match o with | some v => pm_bel n v | none => true)
theorem pm_wf_S {n : Nat} {L : List (Option pm_V)} {S : List pm_V} (hw : pm_wf n L S = true) {ad ad' sd : Nat → Nat} (h : ∀ c, c < n → ad' c = ad c) : S.map (pm_cv ad' sd) = S.map (pm_cv ad sd) := by
  apply List.map_congr_left
  intro v hv
  have h1 := (Bool.and_eq_true_iff.mp hw).1
  exact pm_bel_eq h (List.all_eq_true.mp h1 v hv)
theorem pm_wf_L {n : Nat} {L : List (Option pm_V)} {S : List pm_V} (hw : pm_wf n L S = true) {ad ad' sd : Nat → Nat} (h : ∀ c, c < n → ad' c = ad c) {ls : Array Slot} {nL : Nat} (hl : lv_has ls nL (pm_lc ad sd L)) : lv_has ls nL (pm_lc ad' sd L) := by
  refine pm_lc_sub hl (fun q hq => ?_)
  obtain ⟨v, h1, h2⟩ := pm_lc_mem.mp hq
  refine pm_lc_mem.mpr ⟨v, h1, ?_⟩
  have h3 := List.all_eq_true.mp (Bool.and_eq_true_iff.mp hw).2 (some v) (List.mem_of_getElem? h1)
  rw [h2]
  exact pm_bel_eq h h3
section PCL
variable {md md2 : pm_D} {d lo d2 lo2 n : Nat} {lay0 lay lay' lay2 : List pm_S} {r r2 : Option pm_V} {σ σ' σ2 : pm_M} {pc idx : Nat} {L : List (Option pm_V)} {S S0 As av : List pm_V}
/-- behind a call -/
theorem pm_after (hC : pm_C md2 d2 lo2 av lay σ r2 lay2 σ2) (hwf : lay2.length = lay.length ∨ pm_wf lay.length L S = true) (kk : pm_J md d lo lay0 r lay' σ' (pc + 3) L (r2.toList ++ S) lay2 σ2)
    {p : Program} {l : Launch} {e : Env} {s : State} {m : MethodId} {args : Array Value} {below : List Frame} {meth : Method} {c : Code} {k : pm_K} {A : Nat → Prop} {ad0 ad : Nat → Nat} {H : Heap} {locs : List Loc} {ls : Array Slot} {st0 : List Value} {a : Array Value}
    (X : pm_X md k A p s m args meth c) (h1 : ∀ c, (c < lay0.length ∨ lay.length ≤ c) → ad c = ad0 c) (h2 : lay0.length ≤ lay.length) (h3 : pm_sl lay0 ≤ pm_sl lay) (hD : va_D A (pm_W k ad lay σ)) (hS : va_S A s.heap H locs) (hl : lv_has ls md.2.2.1 (pm_lc ad k.2.2.2 L))
    (hr : va_Run p l e (pm_rm d lo lay0 lay') s m args below meth c H locs (lay.length - lay0.length) (pm_sl lay - pm_sl lay0) (lay2.length - lay.length) (pm_sl lay2 - pm_sl lay) (F0 m pc ls st0) (S.map (pm_cv ad k.2.2.2)) (pm_Qc k ad lay.length r2 lay2 σ2 (va_A (pm_W k ad lay σ) H.size) a) (va_A (pm_W k ad lay σ) H.size)) :
    W p l e (pm_rm d lo lay0 lay') s m args below meth c H locs (lay.length - lay0.length) (pm_sl lay - pm_sl lay0) (MQ below (pm_Qc k ad0 lay0.length r lay' σ' A) args s (lay'.length - lay0.length) (pm_sl lay' - pm_sl lay0) A) (F0 m pc ls st0) := by
  have hA1 : ∀ q, va_A (pm_W k ad lay σ) H.size q → A q := by
    intro q hq
    rcases hq with ⟨i, w, hi⟩ | hq
    · exact hD.2 i _ hi
    · exact X.2.2.2.2.2.2.2.2.1 q (Nat.le_trans hS.1 hq)
  refine pm_call hr hS (fun q _ h => hA1 q h) hA1 (fun ad' H1 locs1 had hP1 hD1 hS1 => ?_)
  have hm := hC.1
  have ec : lay.length - lay0.length + (lay2.length - lay.length) = lay2.length - lay0.length := by omega
  have es : pm_sl lay - pm_sl lay0 + (pm_sl lay2 - pm_sl lay) = pm_sl lay2 - pm_sl lay0 := by omega
  refine W.cs ec es ?_
  have hlt : ∀ c, c < lay.length → ad' c = ad c := fun c h => had c (Or.inl h)
  have hST : (r2.map (pm_cv ad' k.2.2.2)).toList ++ S.map (pm_cv ad k.2.2.2) = (r2.toList ++ S).map (pm_cv ad' k.2.2.2) ∧ lv_has ls md.2.2.1 (pm_lc ad' k.2.2.2 L) := by
    rcases hwf with hq | hq
    · have ea : ad' = ad := funext fun c => had c (by rw [hq]; exact Nat.lt_or_ge c lay.length)
      rw [ea]
      refine ⟨?_, hl⟩
      rw [List.map_append]
      cases r2 <;> rfl
    · refine ⟨?_, pm_wf_L hq hlt hl⟩
      rw [List.map_append, pm_wf_S hq hlt]
      cases r2 <;> rfl
  rw [hST.1]
  exact kk.2 p l e s m args below meth c k A ad0 ad' H1 locs1 ls X (fun c hc => by
    rcases hc with hc | hc
    · rw [hlt c (Nat.lt_of_lt_of_le hc h2)]
      exact h1 c (Or.inl hc)
    · rw [had c (Or.inr hc)]
      exact h1 c (Or.inr (Nat.le_trans hm.1 hc))) (Nat.le_trans h2 hm.1) (Nat.le_trans h3 hm.2) hP1 (hD1.weaken (fun _ _ _ h => hA1 _ h)) hS1 hST.2
theorem pm_pre {p : Program} {s : State} {m : MethodId} {args : Array Value} {meth : Method} {c : Code} {k : pm_K} {A : Nat → Prop} {ad : Nat → Nat} {H : Heap} {locs : List Loc}
    (X : pm_X md k A p s m args meth c) (hP : va_P k.1 vwCl (pm_W k ad lay σ) H) (hD : va_D A (pm_W k ad lay σ)) (hS : va_S A s.heap H locs) : ∀ U : State, U.heap = H → s.WarmedH U.vm → pm_Pc k ad lay σ H.size av (av.map (pm_cv ad k.2.2.2)).toArray U := by
  intro U hU hW
  refine ⟨rfl, by rw [hU], by rw [hU]; exact hP, va_K.moved hW.alike X.2.2.2.2.2.2.2.2.2.2, hD.weaken (fun _ _ _ _ => trivial), ?_⟩
  refine pm_Sf.to X.2.2.2.2.2.2.2.2.2.1 hS (fun q hlt hq => ?_) hW hU
  rcases hq with ⟨i, w, hi⟩ | hq
  · exact hD.2 i _ hi
  · omega
theorem pm_room (hC : pm_C md2 d2 lo2 av lay σ r2 lay2 σ2) (kk : lay2.length ≤ lay'.length ∧ pm_sl lay2 ≤ pm_sl lay') (h2 : lay0.length ≤ lay.length) (h3 : pm_sl lay0 ≤ pm_sl lay) : lay.length - lay0.length + (lay2.length - lay.length) ≤ (pm_rm d lo lay0 lay').cells ∧ pm_sl lay - pm_sl lay0 + (pm_sl lay2 - pm_sl lay) ≤ (pm_rm d lo lay0 lay').slots := by
  have hm := hC.1
  show _ ≤ lay'.length - lay0.length ∧ _ ≤ pm_sl lay' - pm_sl lay0
  omega
theorem pr_callV {t ci : Nat} {q : vw_C} {fs : List pm_F} (hd : decode md.2.1 pc = .ok (.invokevirtual idx, 3)) (hw : pm_MV md.1.cls idx md2 n) (hy : lay[t]? = some (ps_o ci fs)) (hc : vwCl[ci]? = some q) (hq : q.1 = md2.1.cls) (hn : As.length = n) (hst : S0 = As.reverse ++ pv_r t :: S) (h8 : (S.map pm_ct).sum ≤ 8) (hf : d2 + 1 ≤ d) (hlo : 8 + (md2.2.2.1 + 11) + lo2 ≤ lo) (hwf : lay2.length = lay.length ∨ pm_wf lay.length L S = true)
    (hC : pm_C md2 d2 lo2 (pv_r t :: As) lay σ r2 lay2 σ2) (kk : pm_J md d lo lay0 r lay' σ' (pc + 3) L (r2.toList ++ S) lay2 σ2) : pm_J md d lo lay0 r lay' σ' pc L S0 lay σ := by
  have hm := hC.1
  refine ⟨⟨Nat.le_trans hm.1 kk.1.1, Nat.le_trans hm.2 kk.1.2⟩, fun p l e s m args below meth c k A ad0 ad H locs ls X h1 h2 h3 hP hD hS hl => ?_⟩
  refine pm_after hC hwf kk X h1 h2 h3 hD hS hl (a := (Value.ref (ad t) :: As.map (pm_cv ad k.2.2.2)).toArray) ?_
  obtain ⟨⟨w1, w2, w3⟩, w4, w5, w6⟩ := hw
  have hG : GoodIn (pm_wds md) (wsV md.1.cls idx md2.1.cls md2.1 (pm_wds md2)) := by
    intro w h
    have hg : w ∈ pm_G := by
      simp only [wsV, pm_wds, List.mem_append, List.mem_cons, List.not_mem_nil, or_false] at h
      rcases h with (rfl | rfl | rfl | rfl) | rfl | h <;> assumption
    exact ⟨pm_wds_in hg, good_of_word (List.mem_filter.mp hg).2⟩
  exact va_runV (As := As.map (pm_cv ad k.2.2.2)) (rest := S.map (pm_cv ad k.2.2.2)) (nL := md.2.2.1) ⟨X.1, X.2.1, X.2.2.2.1, X.2.2.2.2.1, X.2.2.2.2.2.1⟩ (hC.2 l k ad H.size) (cwV n X.2.2.2.2.2.1 hG rfl rfl rfl ⟨rfl, w3⟩ ⟨hf, hlo⟩)
    ⟨pm_blind, by rw [← hq]; exact va_recv X.2.2.2.2.2.2.2.2.2.2 hP hc (pm_W_at hy), pm_pre X hP hD hS⟩ rfl (by rw [List.length_map]; exact hn) hl.1 (by rw [hst]; show List.map _ _ = _; rw [List.map_append, List.map_reverse]; rfl) (lv_room (by rw [pm_cats]; exact h8)) hd (pm_room hC kk.1 h2 h3)
theorem pr_callS (hd : decode md.2.1 pc = .ok (.invokestatic idx, 3)) (hw : pm_MS md.1.cls idx md2 n) (hn : av.length = n) (hst : S0 = av.reverse ++ S) (h8 : (S.map pm_ct).sum ≤ 8) (hf : d2 + 1 ≤ d) (hlo : 8 + (md2.2.2.1 + 11) + lo2 ≤ lo) (hwf : lay2.length = lay.length ∨ pm_wf lay.length L S = true)
    (hC : pm_C md2 d2 lo2 av lay σ r2 lay2 σ2) (kk : pm_J md d lo lay0 r lay' σ' (pc + 3) L (r2.toList ++ S) lay2 σ2) : pm_J md d lo lay0 r lay' σ' pc L S0 lay σ := by
  have hm := hC.1
  refine ⟨⟨Nat.le_trans hm.1 kk.1.1, Nat.le_trans hm.2 kk.1.2⟩, fun p l e s m args below meth c k A ad0 ad H locs ls X h1 h2 h3 hP hD hS hl => ?_⟩
  refine pm_after hC hwf kk X h1 h2 h3 hD hS hl (a := (av.map (pm_cv ad k.2.2.2)).toArray) ?_
  obtain ⟨⟨w1, w2, w3⟩, w4, w5⟩ := hw
  have hG : GoodIn (pm_wds md) (va_wsS md.1.cls idx md2.1 (pm_wds md2)) := by
    intro w h
    have hg : w ∈ pm_G := by
      simp only [va_wsS, pm_wds, List.mem_append, List.mem_cons, List.not_mem_nil, or_false] at h
      rcases h with (rfl | rfl | rfl) | rfl | h <;> assumption
    exact ⟨pm_wds_in hg, good_of_word (List.mem_filter.mp hg).2⟩
  exact va_runS (As := av.map (pm_cv ad k.2.2.2)) (rest := S.map (pm_cv ad k.2.2.2)) (nL := md.2.2.1) ⟨X.1, X.2.1, X.2.2.2.1, X.2.2.2.2.1, X.2.2.2.2.2.1⟩ (hC.2 l k ad H.size) (va_cwS n X.2.2.2.2.2.1 hG rfl rfl rfl w3 ⟨hf, hlo⟩)
    ⟨pm_blind, pm_pre X hP hD hS⟩ rfl (by rw [List.length_map]; exact hn) hl.1 (by rw [hst]; show List.map _ _ = _; rw [List.map_append, List.map_reverse]) (lv_room (by rw [pm_cats]; exact h8)) hd (pm_room hC kk.1 h2 h3)
theorem pr_callSN (hd : decode md.2.1 pc = .ok (.invokestatic idx, 3)) (hw : pm_MSN md.1.cls idx md2 n) (hn : av.length = n) (hst : S0 = av.reverse ++ S) (h8 : (S.map pm_ct).sum ≤ 8) (hf : d2 + 1 ≤ d) (hlo : 8 + (md2.2.2.1 + 11) + lo2 ≤ lo) (hwf : lay2.length = lay.length ∨ pm_wf lay.length L S = true)
    (hC : pm_C md2 d2 lo2 av lay σ r2 lay2 σ2) (kk : pm_J md d lo lay0 r lay' σ' (pc + 3) L (r2.toList ++ S) lay2 σ2) : pm_J md d lo lay0 r lay' σ' pc L S0 lay σ := by
  have hm := hC.1
  refine ⟨⟨Nat.le_trans hm.1 kk.1.1, Nat.le_trans hm.2 kk.1.2⟩, fun p l e s m args below meth c k A ad0 ad H locs ls X h1 h2 h3 hP hD hS hl => ?_⟩
  refine pm_after hC hwf kk X h1 h2 h3 hD hS hl (a := (av.map (pm_cv ad k.2.2.2)).toArray) ?_
  obtain ⟨⟨w1, w2, w3⟩, ⟨host, w4⟩, w5⟩ := hw
  exact va_runSN (As := av.map (pm_cv ad k.2.2.2)) (rest := S.map (pm_cv ad k.2.2.2)) (nL := md.2.2.1) ⟨X.1, X.2.1, X.2.2.2.1, X.2.2.2.2.1, X.2.2.2.2.2.1⟩ (hC.2 l k ad H.size) ⟨va_cnB n X.2.2.2.2.2.1 (pm_good w2) rfl rfl rfl (X.2.2.2.2.2.2.2.2.2.1.2.1 _ w4) (X.2.2.2.2.2.1 _ (pm_wds_in w1)) w3 ⟨hf, hlo⟩, X.2.2.2.2.2.1 _ (pm_wds_in w5), trivial⟩
    ⟨pm_blind, pm_pre X hP hD hS⟩ rfl (by rw [List.length_map]; exact hn) hl.1 (by rw [hst]; show List.map _ _ = _; rw [List.map_append, List.map_reverse]) (lv_room (by rw [pm_cats]; exact h8)) hd (pm_room hC kk.1 h2 h3)
end PCL
end
section
/-! ===== guards, binds, loops ===== -/
def pm_g {α : Type} (c : Prop) [Decidable c] (x : Option α) : Option α := if c then x else none
theorem pm_gs {α : Type} {c : Prop} [Decidable c] {x : Option α} {y : α} (h : pm_g c x = some y) : c ∧ x = some y := by
  unfold pm_g at h
  split at h
  · exact ⟨by assumption, h⟩
  · cases h
theorem pm_bs {α β : Type} {x : Option α} {f : α → Option β} {y : β} (h : x.bind f = some y) : ∃ q, x = some q ∧ f q = some y := by
  cases x with
  | none => cases h
  | some q => exact ⟨q, rfl, h⟩
theorem pm_pos {α : Type} {c : Prop} [Decidable c] {x y : Option α} {z : α} (hc : c) (h : (if c then x else y) = some z) : x = some z := by
  rw [if_pos hc] at h
  exact h
theorem pm_ng {α : Type} {c : Prop} [Decidable c] {x y : Option α} {z : α} (hc : ¬ c) (h : (if c then x else y) = some z) : y = some z := by
  rw [if_neg hc] at h
  exact h
def pm_fuel : Nat := 100000
def pm_it {α β : Type} (f : α → Option (β ⊕ α)) : Nat → α → Option β
  | 0, _ => none
  | n + 1, a => (f a).bind (fun x => match x with
    | .inl b => some b
    | .inr a' => pm_it f n a')
theorem pm_it_J {α β : Type} {f : α → Option (β ⊕ α)} {P : α → Prop} {Rx : β → Prop} (hstep : ∀ a e, f a = some e → (∀ a', e = .inr a' → P a') → (∀ b', e = .inl b' → Rx b') → P a) : ∀ (n : Nat) (a : α) (b : β), pm_it f n a = some b → Rx b → P a := by
  intro n
  induction n with
  | zero => intro a b h; cases h
  | succ n ih =>
    intro a b h hb
    unfold pm_it at h
    obtain ⟨e, he, h⟩ := pm_bs h
    refine hstep a e he (fun a' ha => ?_) (fun b' hb' => ?_)
    · subst ha
      exact ih a' b h hb
    · subst hb'
      have : b' = b := Option.some.inj h
      rw [this]
      exact hb
/-- a loop by invariant and measure: it ends, and behind it Q -/
theorem pm_it_ok {α β : Type} {f : α → Option (β ⊕ α)} (I : α → Prop) (Q : β → Prop) (μ : α → Nat) (hs : ∀ a, I a → (∃ b, f a = some (.inl b) ∧ Q b) ∨ ∃ a', f a = some (.inr a') ∧ I a' ∧ μ a' < μ a) : ∀ (n : Nat) (a : α), I a → μ a < n → ∃ b, pm_it f n a = some b ∧ Q b := by
  intro n
  induction n with
  | zero => intro a _ h; omega
  | succ n ih =>
    intro a ha hn
    rcases hs a ha with ⟨b, h1, h2⟩ | ⟨a', h1, h2, h3⟩
    · exact ⟨b, by unfold pm_it; rw [h1]; rfl, h2⟩
    · obtain ⟨b, g1, g2⟩ := ih a' h2 (by omega)
      exact ⟨b, by unfold pm_it; rw [h1]; exact g1, g2⟩
/-- System.arraycopy between two int arrays -/
def pm_cp (σ : pm_M) (a sp b dp n : Nat) : pm_M := fun c i => if c = b ∧ dp ≤ i ∧ i < dp + n then σ a (sp + (i - dp)) else σ c i
theorem pm_W_cp {k : pm_K} {ad : Nat → Nat} {lay : List pm_S} {σ : pm_M} {a sp b dp n m : Nat} (h : lay[b]? = some (ps_a m)) :
    pm_W k ad lay (pm_cp σ a sp b dp n) = (pm_W k ad lay σ).set b (ad b, .inl (k.2.1, m, .inl (va_cpy (fun i => Int32.ofInt (σ a i)) (fun i => Int32.ofInt (σ b i)) sp dp n))) := by
  apply List.ext_getElem?
  intro i
  unfold pm_W
  rw [List.getElem?_mapIdx]
  by_cases hi : i = b
  · subst hi
    have hlt : i < lay.length := (List.getElem?_eq_some_iff.mp h).1
    rw [List.getElem?_set_self (by rw [List.length_mapIdx]; exact hlt), h]
    have e8 : (fun j => Int32.ofInt (pm_cp σ a sp i dp n i j)) = va_cpy (fun j => Int32.ofInt (σ a j)) (fun j => Int32.ofInt (σ i j)) sp dp n := by
      funext j
      unfold pm_cp va_cpy
      simp only [true_and]
      split <;> rfl
    rw [← e8]
    rfl
  · rw [List.getElem?_set_ne (Ne.symm hi), List.getElem?_mapIdx]
    have e9 : pm_cp σ a sp b dp n i = σ i := by
      funext j'
      unfold pm_cp
      rw [if_neg (fun q => hi q.1)]
    rw [e9]
def pm_AC (own : String) (idx : Nat) : Prop := Cond.methodLink own idx arraycopyName ∈ pm_G ∧ Cond.native arraycopyName ∈ pm_G ∧ Cond.static arraycopyName ∈ pm_G ∧ Cond.initialized "java/lang/System" ∈ pm_G
theorem pr_acopy {md : pm_D} {d lo : Nat} {lay0 lay lay' : List pm_S} {r : Option pm_V} {σ σ' : pm_M} {pc idx : Nat} {L : List (Option pm_V)} {S : List pm_V} {a b n0 n1 : Nat} {sp dp n sp' dp' n' : Int} (hd : decode md.2.1 pc = .ok (.invokestatic idx, 3)) (hw : pm_AC md.1.cls idx) (ha : lay[a]? = some (ps_a n0)) (hb : lay[b]? = some (ps_a n1)) (hsp : wr sp = sp') (hdp : wr dp = dp') (hn : wr n = n') (hg : 0 ≤ sp' ∧ 0 ≤ dp' ∧ 0 ≤ n' ∧ sp' + n' ≤ n0 ∧ dp' + n' ≤ n1) (hf : 1 ≤ d) (hlo : (S.map pm_ct).sum + (nativeFrameWords "java/lang/System" "arraycopy" 5 + 11) ≤ lo)
    (kk : pm_J md d lo lay0 r lay' σ' (pc + 3) L S lay (pm_cp σ a sp'.toNat b dp'.toNat n'.toNat)) : pm_J md d lo lay0 r lay' σ' pc L (pv_i n :: pv_i dp :: pv_r b :: pv_i sp :: pv_r a :: S) lay σ := by
  subst hsp
  subst hdp
  subst hn
  obtain ⟨g1, g2, g3, g4, g5⟩ := hg
  refine ⟨kk.1, fun p l e s m args below meth c k A ad0 ad H locs ls X h1 h2 h3 hP hD hS hl => ?_⟩
  obtain ⟨w1, w2, w3, w4⟩ := hw
  have nn : ∀ z : Int, 0 ≤ wr z → ¬ Int32.ofInt z < 0 := fun z hz q => by have := (pm_lt0 z).mp q; omega
  refine va_copyi (D := k.1) X.1 X.2.1 (X.2.2.2.1.trans hl.1.symm) X.2.2.2.2.1 (X.2.2.2.2.2.1 _ (pm_wds_in w1)) (X.2.2.2.2.2.1 _ (pm_wds_in w2)) (X.2.2.2.2.2.1 _ (pm_wds_in w3)) (X.2.2.2.2.2.1 _ (pm_wds_in w4)) X.2.2.2.2.2.2.2.2.2.2 hP hD hS a b 0 0 (pm_W_at ha) (pm_W_at hb) rfl rfl (ty := .int) rfl (nn sp g1) (nn dp g2) (nn n g3) (by rw [pm_cl, pm_cl]; omega) (by rw [pm_cl, pm_cl]; omega) (fun _ _ => rfl) hf (by rw [pm_cats]; exact hlo) hd (fun H1 locs1 hP1 hD1 hS1 => ?_)
  rw [pm_cl, pm_cl, pm_cl] at hP1 hD1
  rw [← pm_W_cp hb] at hP1 hD1
  exact kk.2 p l e s m args below meth c k A ad0 ad H1 locs1 ls X h1 h2 h3 hP1 hD1 hS1 hl
end
section
theorem i_vc : Claimed_1_1 ∧ Claimed_1_2 := sorry
end
