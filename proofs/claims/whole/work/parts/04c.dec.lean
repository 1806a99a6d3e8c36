theorem dX2_keep_18 : decode cX2_keep 18 = .ok (.invokestatic 18, 3) := by decide +kernel
theorem dX2_keep_21 : decode cX2_keep 21 = .ok (.aload 4, 2) := by decide +kernel
theorem dX2_keep_23 : decode cX2_keep 23 = .ok (.getfield 24, 3) := by decide +kernel
theorem dX2_keep_26 : decode cX2_keep 26 = .ok (.iload 5, 2) := by decide +kernel
theorem dX2_keep_28 : decode cX2_keep 28 = .ok (.bipush 12, 2) := by decide +kernel
theorem dX2_keep_30 : decode cX2_keep 30 = .ok (.imul, 1) := by decide +kernel
theorem dX2_keep_31 : decode cX2_keep 31 = .ok (.aload_n 0, 1) := by decide +kernel
theorem dX2_keep_32 : decode cX2_keep 32 = .ok (.getfield 9, 3) := by decide +kernel
theorem dX2_keep_35 : decode cX2_keep 35 = .ok (.iload 6, 2) := by decide +kernel
theorem dX2_keep_37 : decode cX2_keep 37 = .ok (.bipush 12, 2) := by decide +kernel
theorem dX2_keep_39 : decode cX2_keep 39 = .ok (.iadd, 1) := by decide +kernel
theorem dX2_keep_40 : decode cX2_keep 40 = .ok (.bipush 12, 2) := by decide +kernel
theorem dX2_keep_42 : decode cX2_keep 42 = .ok (.invokestatic 18, 3) := by decide +kernel
theorem dX2_keep_45 : decode cX2_keep 45 = .ok (.aload 4, 2) := by decide +kernel
theorem dX2_keep_47 : decode cX2_keep 47 = .ok (.getfield 27, 3) := by decide +kernel
theorem dX2_keep_50 : decode cX2_keep 50 = .ok (.iconst 2, 1) := by decide +kernel
theorem dX2_keep_51 : decode cX2_keep 51 = .ok (.iload 5, 2) := by decide +kernel
theorem dX2_keep_53 : decode cX2_keep 53 = .ok (.imul, 1) := by decide +kernel
theorem dX2_keep_54 : decode cX2_keep 54 = .ok (.iaload, 1) := by decide +kernel
theorem dX2_keep_55 : decode cX2_keep 55 = .ok (.bipush 50, 2) := by decide +kernel
theorem dX2_keep_57 : decode cX2_keep 57 = .ok (.irem, 1) := by decide +kernel
theorem dX2_keep_58 : decode cX2_keep 58 = .ok (.istore 7, 2) := by decide +kernel
theorem dX2_keep_60 : decode cX2_keep 60 = .ok (.aload_n 0, 1) := by decide +kernel
theorem dX2_keep_61 : decode cX2_keep 61 = .ok (.getfield 15, 3) := by decide +kernel
theorem dX2_keep_64 : decode cX2_keep 64 = .ok (.iload_n 1, 1) := by decide +kernel
theorem dX2_keep_65 : decode cX2_keep 65 = .ok (.iconst 0, 1) := by decide +kernel
theorem dX2_keep_66 : decode cX2_keep 66 = .ok (.bipush 30, 2) := by decide +kernel
theorem dX2_keep_68 : decode cX2_keep 68 = .ok (.iload 7, 2) := by decide +kernel
theorem dX2_keep_70 : decode cX2_keep 70 = .ok (.isub, 1) := by decide +kernel
theorem dX2_keep_71 : decode cX2_keep 71 = .ok (.invokestatic 30, 3) := by decide +kernel
theorem dX2_keep_74 : decode cX2_keep 74 = .ok (.iastore, 1) := by decide +kernel
theorem dX2_keep_75 : decode cX2_keep 75 = .ok (.return_, 1) := by decide +kernel
theorem dX2_markOf_0 : decode cX2_markOf 0 = .ok (.iload_n 2, 1) := by decide +kernel
theorem dX2_markOf_1 : decode cX2_markOf 1 = .ok (.iconst 2, 1) := by decide +kernel
theorem dX2_markOf_2 : decode cX2_markOf 2 = .ok (.irem, 1) := by decide +kernel
theorem dX2_markOf_3 : decode cX2_markOf 3 = .ok (.istore 4, 2) := by decide +kernel
theorem dX2_markOf_5 : decode cX2_markOf 5 = .ok (.aload_n 0, 1) := by decide +kernel
theorem dX2_markOf_6 : decode cX2_markOf 6 = .ok (.iload_n 1, 1) := by decide +kernel
theorem dX2_markOf_7 : decode cX2_markOf 7 = .ok (.iload_n 2, 1) := by decide +kernel
theorem dX2_markOf_8 : decode cX2_markOf 8 = .ok (.iconst 2, 1) := by decide +kernel
theorem dX2_markOf_9 : decode cX2_markOf 9 = .ok (.idiv, 1) := by decide +kernel
theorem dX2_markOf_10 : decode cX2_markOf 10 = .ok (.aload_n 0, 1) := by decide +kernel
theorem dX2_markOf_11 : decode cX2_markOf 11 = .ok (.getfield 15, 3) := by decide +kernel
theorem dX2_markOf_14 : decode cX2_markOf 14 = .ok (.iload_n 1, 1) := by decide +kernel
theorem dX2_markOf_15 : decode cX2_markOf 15 = .ok (.iaload, 1) := by decide +kernel
theorem dX2_markOf_16 : decode cX2_markOf 16 = .ok (.if_icmp .ge 8, 3) := by decide +kernel
theorem dX2_markOf_19 : decode cX2_markOf 19 = .ok (.iload 4, 2) := by decide +kernel
theorem dX2_markOf_21 : decode cX2_markOf 21 = .ok (.goto 7, 3) := by decide +kernel
theorem dX2_markOf_24 : decode cX2_markOf 24 = .ok (.iload 4, 2) := by decide +kernel
theorem dX2_markOf_26 : decode cX2_markOf 26 = .ok (.iconst 2, 1) := by decide +kernel
theorem dX2_markOf_27 : decode cX2_markOf 27 = .ok (.iadd, 1) := by decide +kernel
theorem dX2_markOf_28 : decode cX2_markOf 28 = .ok (.iload_n 3, 1) := by decide +kernel
theorem dX2_markOf_29 : decode cX2_markOf 29 = .ok (.invokevirtual 36, 3) := by decide +kernel
theorem dX2_markOf_32 : decode cX2_markOf 32 = .ok (.ireturn, 1) := by decide +kernel
theorem dX2_groupMark_0 : decode cX2_groupMark 0 = .ok (.aload_n 0, 1) := by decide +kernel
theorem dX2_groupMark_1 : decode cX2_groupMark 1 = .ok (.getfield 9, 3) := by decide +kernel
theorem dX2_groupMark_4 : decode cX2_groupMark 4 = .ok (.iload_n 1, 1) := by decide +kernel
theorem dX2_groupMark_5 : decode cX2_groupMark 5 = .ok (.iconst 4, 1) := by decide +kernel
theorem dX2_groupMark_6 : decode cX2_groupMark 6 = .ok (.imul, 1) := by decide +kernel
theorem dX2_groupMark_7 : decode cX2_groupMark 7 = .ok (.iload_n 2, 1) := by decide +kernel
theorem dX2_groupMark_8 : decode cX2_groupMark 8 = .ok (.iadd, 1) := by decide +kernel
theorem dX2_groupMark_9 : decode cX2_groupMark 9 = .ok (.bipush 6, 2) := by decide +kernel
theorem dX2_groupMark_11 : decode cX2_groupMark 11 = .ok (.imul, 1) := by decide +kernel
theorem dX2_groupMark_12 : decode cX2_groupMark 12 = .ok (.iload_n 3, 1) := by decide +kernel
theorem dX2_groupMark_13 : decode cX2_groupMark 13 = .ok (.iadd, 1) := by decide +kernel
theorem dX2_groupMark_14 : decode cX2_groupMark 14 = .ok (.iaload, 1) := by decide +kernel
theorem dX2_groupMark_15 : decode cX2_groupMark 15 = .ok (.ireturn, 1) := by decide +kernel
theorem dX2_groupSheets_0 : decode cX2_groupSheets 0 = .ok (.iload_n 2, 1) := by decide +kernel
theorem dX2_groupSheets_1 : decode cX2_groupSheets 1 = .ok (.iconst 2, 1) := by decide +kernel
theorem dX2_groupSheets_2 : decode cX2_groupSheets 2 = .ok (.if_icmp .ge 12, 3) := by decide +kernel
theorem dX2_groupSheets_5 : decode cX2_groupSheets 5 = .ok (.aload_n 0, 1) := by decide +kernel
theorem dX2_groupSheets_6 : decode cX2_groupSheets 6 = .ok (.getfield 15, 3) := by decide +kernel
theorem dX2_groupSheets_9 : decode cX2_groupSheets 9 = .ok (.iload_n 1, 1) := by decide +kernel
theorem dX2_groupSheets_10 : decode cX2_groupSheets 10 = .ok (.iaload, 1) := by decide +kernel
theorem dX2_groupSheets_11 : decode cX2_groupSheets 11 = .ok (.goto 12, 3) := by decide +kernel
theorem dX2_groupSheets_14 : decode cX2_groupSheets 14 = .ok (.bipush 30, 2) := by decide +kernel
theorem dX2_groupSheets_16 : decode cX2_groupSheets 16 = .ok (.aload_n 0, 1) := by decide +kernel
theorem dX2_groupSheets_17 : decode cX2_groupSheets 17 = .ok (.getfield 15, 3) := by decide +kernel
theorem dX2_groupSheets_20 : decode cX2_groupSheets 20 = .ok (.iload_n 1, 1) := by decide +kernel
theorem dX2_groupSheets_21 : decode cX2_groupSheets 21 = .ok (.iaload, 1) := by decide +kernel
theorem dX2_groupSheets_22 : decode cX2_groupSheets 22 = .ok (.isub, 1) := by decide +kernel
theorem dX2_groupSheets_23 : decode cX2_groupSheets 23 = .ok (.ireturn, 1) := by decide +kernel
theorem dX2_groupFirst_0 : decode cX2_groupFirst 0 = .ok (.iload_n 2, 1) := by decide +kernel
theorem dX2_groupFirst_1 : decode cX2_groupFirst 1 = .ok (.iconst 2, 1) := by decide +kernel
theorem dX2_groupFirst_2 : decode cX2_groupFirst 2 = .ok (.if_icmp .ge 7, 3) := by decide +kernel
theorem dX2_groupFirst_5 : decode cX2_groupFirst 5 = .ok (.iload_n 2, 1) := by decide +kernel
theorem dX2_groupFirst_6 : decode cX2_groupFirst 6 = .ok (.goto 15, 3) := by decide +kernel
theorem dX2_groupFirst_9 : decode cX2_groupFirst 9 = .ok (.iconst 2, 1) := by decide +kernel
theorem dX2_groupFirst_10 : decode cX2_groupFirst 10 = .ok (.aload_n 0, 1) := by decide +kernel
theorem dX2_groupFirst_11 : decode cX2_groupFirst 11 = .ok (.getfield 15, 3) := by decide +kernel
theorem dX2_groupFirst_14 : decode cX2_groupFirst 14 = .ok (.iload_n 1, 1) := by decide +kernel
theorem dX2_groupFirst_15 : decode cX2_groupFirst 15 = .ok (.iaload, 1) := by decide +kernel
theorem dX2_groupFirst_16 : decode cX2_groupFirst 16 = .ok (.imul, 1) := by decide +kernel
theorem dX2_groupFirst_17 : decode cX2_groupFirst 17 = .ok (.iload_n 2, 1) := by decide +kernel
theorem dX2_groupFirst_18 : decode cX2_groupFirst 18 = .ok (.iadd, 1) := by decide +kernel
theorem dX2_groupFirst_19 : decode cX2_groupFirst 19 = .ok (.iconst 2, 1) := by decide +kernel
theorem dX2_groupFirst_20 : decode cX2_groupFirst 20 = .ok (.isub, 1) := by decide +kernel
theorem dX2_groupFirst_21 : decode cX2_groupFirst 21 = .ok (.ireturn, 1) := by decide +kernel
theorem dX3_init_0 : decode cX3_init 0 = .ok (.aload_n 0, 1) := by decide +kernel
theorem dX3_init_1 : decode cX3_init 1 = .ok (.invokespecial 3, 3) := by decide +kernel
theorem dX3_init_4 : decode cX3_init 4 = .ok (.aload_n 0, 1) := by decide +kernel
theorem dX3_init_5 : decode cX3_init 5 = .ok (.iconst 4, 1) := by decide +kernel
theorem dX3_init_6 : decode cX3_init 6 = .ok (.newarray .int, 2) := by decide +kernel
theorem dX3_init_8 : decode cX3_init 8 = .ok (.putfield 9, 3) := by decide +kernel
theorem dX3_init_11 : decode cX3_init 11 = .ok (.aload_n 0, 1) := by decide +kernel
theorem dX3_init_12 : decode cX3_init 12 = .ok (.bipush 48, 2) := by decide +kernel
theorem dX3_init_14 : decode cX3_init 14 = .ok (.newarray .int, 2) := by decide +kernel
theorem dX3_init_16 : decode cX3_init 16 = .ok (.putfield 15, 3) := by decide +kernel
theorem dX3_init_19 : decode cX3_init 19 = .ok (.aload_n 0, 1) := by decide +kernel
theorem dX3_init_20 : decode cX3_init 20 = .ok (.bipush 8, 2) := by decide +kernel
theorem dX3_init_22 : decode cX3_init 22 = .ok (.newarray .int, 2) := by decide +kernel
theorem dX3_init_24 : decode cX3_init 24 = .ok (.putfield 18, 3) := by decide +kernel
theorem dX3_init_27 : decode cX3_init 27 = .ok (.return_, 1) := by decide +kernel
theorem dX3_copyFrom_0 : decode cX3_copyFrom 0 = .ok (.aload_n 1, 1) := by decide +kernel
theorem dX3_copyFrom_1 : decode cX3_copyFrom 1 = .ok (.getfield 9, 3) := by decide +kernel
theorem dX3_copyFrom_4 : decode cX3_copyFrom 4 = .ok (.aload_n 0, 1) := by decide +kernel
theorem dX3_copyFrom_5 : decode cX3_copyFrom 5 = .ok (.getfield 9, 3) := by decide +kernel
theorem dX3_copyFrom_8 : decode cX3_copyFrom 8 = .ok (.invokestatic 21, 3) := by decide +kernel
theorem dX3_copyFrom_11 : decode cX3_copyFrom 11 = .ok (.aload_n 1, 1) := by decide +kernel
theorem dX3_copyFrom_12 : decode cX3_copyFrom 12 = .ok (.getfield 15, 3) := by decide +kernel
theorem dX3_copyFrom_15 : decode cX3_copyFrom 15 = .ok (.aload_n 0, 1) := by decide +kernel
theorem dX3_copyFrom_16 : decode cX3_copyFrom 16 = .ok (.getfield 15, 3) := by decide +kernel
theorem dX3_copyFrom_19 : decode cX3_copyFrom 19 = .ok (.invokestatic 21, 3) := by decide +kernel
theorem dX3_copyFrom_22 : decode cX3_copyFrom 22 = .ok (.aload_n 1, 1) := by decide +kernel
theorem dX3_copyFrom_23 : decode cX3_copyFrom 23 = .ok (.getfield 18, 3) := by decide +kernel
theorem dX3_copyFrom_26 : decode cX3_copyFrom 26 = .ok (.aload_n 0, 1) := by decide +kernel
theorem dX3_copyFrom_27 : decode cX3_copyFrom 27 = .ok (.getfield 18, 3) := by decide +kernel
theorem dX3_copyFrom_30 : decode cX3_copyFrom 30 = .ok (.invokestatic 21, 3) := by decide +kernel
theorem dX3_copyFrom_33 : decode cX3_copyFrom 33 = .ok (.aload_n 0, 1) := by decide +kernel
theorem dX3_copyFrom_34 : decode cX3_copyFrom 34 = .ok (.aload_n 1, 1) := by decide +kernel
theorem dX3_copyFrom_35 : decode cX3_copyFrom 35 = .ok (.getfield 25, 3) := by decide +kernel
theorem dX3_copyFrom_38 : decode cX3_copyFrom 38 = .ok (.putfield 25, 3) := by decide +kernel
theorem dX3_copyFrom_41 : decode cX3_copyFrom 41 = .ok (.return_, 1) := by decide +kernel
theorem dX3_addPair_0 : decode cX3_addPair 0 = .ok (.aload_n 0, 1) := by decide +kernel
theorem dX3_addPair_1 : decode cX3_addPair 1 = .ok (.getfield 9, 3) := by decide +kernel
theorem dX3_addPair_4 : decode cX3_addPair 4 = .ok (.aload_n 0, 1) := by decide +kernel
theorem dX3_addPair_5 : decode cX3_addPair 5 = .ok (.getfield 25, 3) := by decide +kernel
theorem dX3_addPair_8 : decode cX3_addPair 8 = .ok (.iload_n 1, 1) := by decide +kernel
theorem dX3_addPair_9 : decode cX3_addPair 9 = .ok (.iastore, 1) := by decide +kernel
theorem dX3_addPair_10 : decode cX3_addPair 10 = .ok (.iconst 0, 1) := by decide +kernel
theorem dX3_addPair_11 : decode cX3_addPair 11 = .ok (.istore_n 2, 1) := by decide +kernel
theorem dX3_addPair_12 : decode cX3_addPair 12 = .ok (.iload_n 2, 1) := by decide +kernel
theorem dX3_addPair_13 : decode cX3_addPair 13 = .ok (.bipush 12, 2) := by decide +kernel
theorem dX3_addPair_15 : decode cX3_addPair 15 = .ok (.if_icmp .ge 25, 3) := by decide +kernel
theorem dX3_addPair_18 : decode cX3_addPair 18 = .ok (.aload_n 0, 1) := by decide +kernel
theorem dX3_addPair_19 : decode cX3_addPair 19 = .ok (.getfield 15, 3) := by decide +kernel
theorem dX3_addPair_22 : decode cX3_addPair 22 = .ok (.aload_n 0, 1) := by decide +kernel
theorem dX3_addPair_23 : decode cX3_addPair 23 = .ok (.getfield 25, 3) := by decide +kernel
theorem dX3_addPair_26 : decode cX3_addPair 26 = .ok (.bipush 12, 2) := by decide +kernel
theorem dX3_addPair_28 : decode cX3_addPair 28 = .ok (.imul, 1) := by decide +kernel
theorem dX3_addPair_29 : decode cX3_addPair 29 = .ok (.iload_n 2, 1) := by decide +kernel
theorem dX3_addPair_30 : decode cX3_addPair 30 = .ok (.iadd, 1) := by decide +kernel
theorem dX3_addPair_31 : decode cX3_addPair 31 = .ok (.bipush 50, 2) := by decide +kernel
theorem dX3_addPair_33 : decode cX3_addPair 33 = .ok (.iastore, 1) := by decide +kernel
theorem dX3_addPair_34 : decode cX3_addPair 34 = .ok (.iinc 2 1, 3) := by decide +kernel
theorem dX3_addPair_37 : decode cX3_addPair 37 = .ok (.goto (-25), 3) := by decide +kernel
theorem dX3_addPair_40 : decode cX3_addPair 40 = .ok (.aload_n 0, 1) := by decide +kernel
theorem dX3_addPair_41 : decode cX3_addPair 41 = .ok (.dup, 1) := by decide +kernel
theorem dX3_addPair_42 : decode cX3_addPair 42 = .ok (.getfield 25, 3) := by decide +kernel
theorem dX3_addPair_45 : decode cX3_addPair 45 = .ok (.iconst 1, 1) := by decide +kernel
theorem dX3_addPair_46 : decode cX3_addPair 46 = .ok (.iadd, 1) := by decide +kernel
theorem dX3_addPair_47 : decode cX3_addPair 47 = .ok (.putfield 25, 3) := by decide +kernel
theorem dX3_addPair_50 : decode cX3_addPair 50 = .ok (.aload_n 0, 1) := by decide +kernel
theorem dX3_addPair_51 : decode cX3_addPair 51 = .ok (.getfield 25, 3) := by decide +kernel
theorem dX3_addPair_54 : decode cX3_addPair 54 = .ok (.iconst 1, 1) := by decide +kernel
theorem dX3_addPair_55 : decode cX3_addPair 55 = .ok (.isub, 1) := by decide +kernel
theorem dX3_addPair_56 : decode cX3_addPair 56 = .ok (.ireturn, 1) := by decide +kernel
theorem dX3_wireOf_0 : decode cX3_wireOf 0 = .ok (.aload_n 0, 1) := by decide +kernel
theorem dX3_wireOf_1 : decode cX3_wireOf 1 = .ok (.getfield 15, 3) := by decide +kernel
theorem dX3_wireOf_4 : decode cX3_wireOf 4 = .ok (.iload_n 1, 1) := by decide +kernel
theorem dX3_wireOf_5 : decode cX3_wireOf 5 = .ok (.bipush 6, 2) := by decide +kernel
theorem dX3_wireOf_7 : decode cX3_wireOf 7 = .ok (.imul, 1) := by decide +kernel
theorem dX3_wireOf_8 : decode cX3_wireOf 8 = .ok (.iload_n 2, 1) := by decide +kernel
theorem dX3_wireOf_9 : decode cX3_wireOf 9 = .ok (.iadd, 1) := by decide +kernel
theorem dX3_wireOf_10 : decode cX3_wireOf 10 = .ok (.iaload, 1) := by decide +kernel
theorem dX3_wireOf_11 : decode cX3_wireOf 11 = .ok (.ireturn, 1) := by decide +kernel
theorem dX3_setWire_0 : decode cX3_setWire 0 = .ok (.aload_n 0, 1) := by decide +kernel
theorem dX3_setWire_1 : decode cX3_setWire 1 = .ok (.getfield 15, 3) := by decide +kernel
theorem dX3_setWire_4 : decode cX3_setWire 4 = .ok (.iload_n 1, 1) := by decide +kernel
theorem dX3_setWire_5 : decode cX3_setWire 5 = .ok (.bipush 6, 2) := by decide +kernel
theorem dX3_setWire_7 : decode cX3_setWire 7 = .ok (.imul, 1) := by decide +kernel
theorem dX3_setWire_8 : decode cX3_setWire 8 = .ok (.iload_n 2, 1) := by decide +kernel
theorem dX3_setWire_9 : decode cX3_setWire 9 = .ok (.iadd, 1) := by decide +kernel
theorem dX3_setWire_10 : decode cX3_setWire 10 = .ok (.iload_n 3, 1) := by decide +kernel
theorem dX3_setWire_11 : decode cX3_setWire 11 = .ok (.iastore, 1) := by decide +kernel
theorem dX3_setWire_12 : decode cX3_setWire 12 = .ok (.return_, 1) := by decide +kernel
theorem dX3_countSheet_0 : decode cX3_countSheet 0 = .ok (.aload_n 0, 1) := by decide +kernel
theorem dX3_countSheet_1 : decode cX3_countSheet 1 = .ok (.getfield 18, 3) := by decide +kernel
theorem dX3_countSheet_4 : decode cX3_countSheet 4 = .ok (.iload_n 1, 1) := by decide +kernel
theorem dX3_countSheet_5 : decode cX3_countSheet 5 = .ok (.dup2, 1) := by decide +kernel
theorem dX3_countSheet_6 : decode cX3_countSheet 6 = .ok (.iaload, 1) := by decide +kernel
theorem dX3_countSheet_7 : decode cX3_countSheet 7 = .ok (.iconst 1, 1) := by decide +kernel
theorem dX3_countSheet_8 : decode cX3_countSheet 8 = .ok (.iadd, 1) := by decide +kernel
theorem dX3_countSheet_9 : decode cX3_countSheet 9 = .ok (.iastore, 1) := by decide +kernel
theorem dX3_countSheet_10 : decode cX3_countSheet 10 = .ok (.aload_n 0, 1) := by decide +kernel
theorem dX3_countSheet_11 : decode cX3_countSheet 11 = .ok (.getfield 18, 3) := by decide +kernel
theorem dX3_countSheet_14 : decode cX3_countSheet 14 = .ok (.iload_n 1, 1) := by decide +kernel
theorem dX3_countSheet_15 : decode cX3_countSheet 15 = .ok (.iaload, 1) := by decide +kernel
theorem dX3_countSheet_16 : decode cX3_countSheet 16 = .ok (.bipush 50, 2) := by decide +kernel
theorem dX3_countSheet_18 : decode cX3_countSheet 18 = .ok (.irem, 1) := by decide +kernel
theorem dX3_countSheet_19 : decode cX3_countSheet 19 = .ok (.ifCond .eq 4, 3) := by decide +kernel
theorem dX3_countSheet_22 : decode cX3_countSheet 22 = .ok (.return_, 1) := by decide +kernel
theorem dX3_countSheet_23 : decode cX3_countSheet 23 = .ok (.aload_n 0, 1) := by decide +kernel
theorem dX3_countSheet_24 : decode cX3_countSheet 24 = .ok (.getfield 18, 3) := by decide +kernel
theorem dX3_countSheet_27 : decode cX3_countSheet 27 = .ok (.iload_n 1, 1) := by decide +kernel
theorem dX3_countSheet_28 : decode cX3_countSheet 28 = .ok (.iaload, 1) := by decide +kernel
theorem dX3_countSheet_29 : decode cX3_countSheet 29 = .ok (.bipush 50, 2) := by decide +kernel
theorem dX3_countSheet_31 : decode cX3_countSheet 31 = .ok (.idiv, 1) := by decide +kernel
theorem dX3_countSheet_32 : decode cX3_countSheet 32 = .ok (.istore_n 2, 1) := by decide +kernel
theorem dX3_countSheet_33 : decode cX3_countSheet 33 = .ok (.iload_n 1, 1) := by decide +kernel
theorem dX3_countSheet_34 : decode cX3_countSheet 34 = .ok (.bipush 6, 2) := by decide +kernel
theorem dX3_countSheet_36 : decode cX3_countSheet 36 = .ok (.imul, 1) := by decide +kernel
theorem dX3_countSheet_37 : decode cX3_countSheet 37 = .ok (.iload_n 2, 1) := by decide +kernel
theorem dX3_countSheet_38 : decode cX3_countSheet 38 = .ok (.iload_n 1, 1) := by decide +kernel
theorem dX3_countSheet_39 : decode cX3_countSheet 39 = .ok (.iadd, 1) := by decide +kernel
theorem dX3_countSheet_40 : decode cX3_countSheet 40 = .ok (.bipush 6, 2) := by decide +kernel
theorem dX3_countSheet_42 : decode cX3_countSheet 42 = .ok (.irem, 1) := by decide +kernel
theorem dX3_countSheet_43 : decode cX3_countSheet 43 = .ok (.iadd, 1) := by decide +kernel
theorem dX3_countSheet_44 : decode cX3_countSheet 44 = .ok (.istore_n 3, 1) := by decide +kernel
theorem dX3_countSheet_45 : decode cX3_countSheet 45 = .ok (.iload_n 2, 1) := by decide +kernel
theorem dX3_countSheet_46 : decode cX3_countSheet 46 = .ok (.bipush 6, 2) := by decide +kernel
theorem dX3_countSheet_48 : decode cX3_countSheet 48 = .ok (.idiv, 1) := by decide +kernel
theorem dX3_countSheet_49 : decode cX3_countSheet 49 = .ok (.iconst 2, 1) := by decide +kernel
theorem dX3_countSheet_50 : decode cX3_countSheet 50 = .ok (.irem, 1) := by decide +kernel
theorem dX3_countSheet_51 : decode cX3_countSheet 51 = .ok (.ifCond .ne 14, 3) := by decide +kernel
theorem dX3_countSheet_54 : decode cX3_countSheet 54 = .ok (.aload_n 0, 1) := by decide +kernel
theorem dX3_countSheet_55 : decode cX3_countSheet 55 = .ok (.getfield 15, 3) := by decide +kernel
theorem dX3_countSheet_58 : decode cX3_countSheet 58 = .ok (.iload_n 3, 1) := by decide +kernel
theorem dX3_countSheet_59 : decode cX3_countSheet 59 = .ok (.iaload, 1) := by decide +kernel
theorem dX3_countSheet_60 : decode cX3_countSheet 60 = .ok (.iconst 1, 1) := by decide +kernel
theorem dX3_countSheet_61 : decode cX3_countSheet 61 = .ok (.iadd, 1) := by decide +kernel
theorem dX3_countSheet_62 : decode cX3_countSheet 62 = .ok (.goto 11, 3) := by decide +kernel
theorem dX3_countSheet_65 : decode cX3_countSheet 65 = .ok (.aload_n 0, 1) := by decide +kernel
theorem dX3_countSheet_66 : decode cX3_countSheet 66 = .ok (.getfield 15, 3) := by decide +kernel
theorem dX3_countSheet_69 : decode cX3_countSheet 69 = .ok (.iload_n 3, 1) := by decide +kernel
theorem dX3_countSheet_70 : decode cX3_countSheet 70 = .ok (.iaload, 1) := by decide +kernel
theorem dX3_countSheet_71 : decode cX3_countSheet 71 = .ok (.iconst 1, 1) := by decide +kernel
theorem dX3_countSheet_72 : decode cX3_countSheet 72 = .ok (.isub, 1) := by decide +kernel
theorem dX3_countSheet_73 : decode cX3_countSheet 73 = .ok (.istore 4, 2) := by decide +kernel
theorem dX3_countSheet_75 : decode cX3_countSheet 75 = .ok (.iload 4, 2) := by decide +kernel
theorem dX3_countSheet_77 : decode cX3_countSheet 77 = .ok (.ifCond .lt 18, 3) := by decide +kernel
theorem dX3_countSheet_80 : decode cX3_countSheet 80 = .ok (.iload 4, 2) := by decide +kernel
theorem dX3_countSheet_82 : decode cX3_countSheet 82 = .ok (.bipush 99, 2) := by decide +kernel
theorem dX3_countSheet_84 : decode cX3_countSheet 84 = .ok (.if_icmp .gt 11, 3) := by decide +kernel
theorem dX3_countSheet_87 : decode cX3_countSheet 87 = .ok (.aload_n 0, 1) := by decide +kernel
theorem dX3_countSheet_88 : decode cX3_countSheet 88 = .ok (.getfield 15, 3) := by decide +kernel
theorem dX3_countSheet_91 : decode cX3_countSheet 91 = .ok (.iload_n 3, 1) := by decide +kernel
theorem dX3_countSheet_92 : decode cX3_countSheet 92 = .ok (.iload 4, 2) := by decide +kernel
theorem dX3_countSheet_94 : decode cX3_countSheet 94 = .ok (.iastore, 1) := by decide +kernel
theorem dX3_countSheet_95 : decode cX3_countSheet 95 = .ok (.return_, 1) := by decide +kernel
theorem dX4_init_0 : decode cX4_init 0 = .ok (.aload_n 0, 1) := by decide +kernel
theorem dX4_init_1 : decode cX4_init 1 = .ok (.invokespecial 3, 3) := by decide +kernel
theorem dX4_init_4 : decode cX4_init 4 = .ok (.aload_n 0, 1) := by decide +kernel
theorem dX4_init_5 : decode cX4_init 5 = .ok (.bipush 6, 2) := by decide +kernel
theorem dX4_init_7 : decode cX4_init 7 = .ok (.newarray .int, 2) := by decide +kernel
theorem dX4_init_9 : decode cX4_init 9 = .ok (.putfield 9, 3) := by decide +kernel
theorem dX4_init_12 : decode cX4_init 12 = .ok (.aload_n 0, 1) := by decide +kernel
theorem dX4_init_13 : decode cX4_init 13 = .ok (.aload_n 1, 1) := by decide +kernel
theorem dX4_init_14 : decode cX4_init 14 = .ok (.putfield 15, 3) := by decide +kernel
theorem dX4_init_17 : decode cX4_init 17 = .ok (.aload_n 0, 1) := by decide +kernel
theorem dX4_init_18 : decode cX4_init 18 = .ok (.getfield 9, 3) := by decide +kernel
theorem dX4_init_21 : decode cX4_init 21 = .ok (.iconst (-1), 1) := by decide +kernel
theorem dX4_init_22 : decode cX4_init 22 = .ok (.invokestatic 19, 3) := by decide +kernel
theorem dX4_init_25 : decode cX4_init 25 = .ok (.return_, 1) := by decide +kernel
theorem dX4_countNear_0 : decode cX4_countNear 0 = .ok (.iconst 0, 1) := by decide +kernel
theorem dX4_countNear_1 : decode cX4_countNear 1 = .ok (.istore_n 2, 1) := by decide +kernel
theorem dX4_countNear_2 : decode cX4_countNear 2 = .ok (.iconst 0, 1) := by decide +kernel
theorem dX4_countNear_3 : decode cX4_countNear 3 = .ok (.istore_n 3, 1) := by decide +kernel
theorem dX4_countNear_4 : decode cX4_countNear 4 = .ok (.iload_n 3, 1) := by decide +kernel
theorem dX4_countNear_5 : decode cX4_countNear 5 = .ok (.aload_n 0, 1) := by decide +kernel
theorem dX4_countNear_6 : decode cX4_countNear 6 = .ok (.getfield 15, 3) := by decide +kernel
theorem dX4_countNear_9 : decode cX4_countNear 9 = .ok (.getfield 25, 3) := by decide +kernel
theorem dX4_countNear_12 : decode cX4_countNear 12 = .ok (.if_icmp .ge 51, 3) := by decide +kernel
theorem dX4_countNear_15 : decode cX4_countNear 15 = .ok (.iconst 0, 1) := by decide +kernel
theorem dX4_countNear_16 : decode cX4_countNear 16 = .ok (.istore 4, 2) := by decide +kernel
theorem dX4_countNear_18 : decode cX4_countNear 18 = .ok (.iload 4, 2) := by decide +kernel
theorem dX4_countNear_20 : decode cX4_countNear 20 = .ok (.iconst 4, 1) := by decide +kernel
theorem dX4_countNear_21 : decode cX4_countNear 21 = .ok (.if_icmp .ge 36, 3) := by decide +kernel
theorem dX4_countNear_24 : decode cX4_countNear 24 = .ok (.aload_n 0, 1) := by decide +kernel
theorem dX4_countNear_25 : decode cX4_countNear 25 = .ok (.iload_n 3, 1) := by decide +kernel
theorem dX4_countNear_26 : decode cX4_countNear 26 = .ok (.iload 4, 2) := by decide +kernel
theorem dX4_countNear_28 : decode cX4_countNear 28 = .ok (.iload_n 1, 1) := by decide +kernel
theorem dX4_countNear_29 : decode cX4_countNear 29 = .ok (.invokevirtual 31, 3) := by decide +kernel
theorem dX4_countNear_32 : decode cX4_countNear 32 = .ok (.ifCond .eq 19, 3) := by decide +kernel
theorem dX4_countNear_35 : decode cX4_countNear 35 = .ok (.iload_n 2, 1) := by decide +kernel
theorem dX4_countNear_36 : decode cX4_countNear 36 = .ok (.aload_n 0, 1) := by decide +kernel
theorem dX4_countNear_37 : decode cX4_countNear 37 = .ok (.getfield 15, 3) := by decide +kernel
theorem dX4_countNear_40 : decode cX4_countNear 40 = .ok (.getfield 35, 3) := by decide +kernel
theorem dX4_countNear_43 : decode cX4_countNear 43 = .ok (.iload_n 3, 1) := by decide +kernel
theorem dX4_countNear_44 : decode cX4_countNear 44 = .ok (.iload 4, 2) := by decide +kernel
theorem dX4_countNear_46 : decode cX4_countNear 46 = .ok (.invokevirtual 38, 3) := by decide +kernel
theorem dX4_countNear_49 : decode cX4_countNear 49 = .ok (.iadd, 1) := by decide +kernel
theorem dX4_countNear_50 : decode cX4_countNear 50 = .ok (.istore_n 2, 1) := by decide +kernel
theorem dX4_countNear_51 : decode cX4_countNear 51 = .ok (.iinc 4 1, 3) := by decide +kernel
theorem dX4_countNear_54 : decode cX4_countNear 54 = .ok (.goto (-36), 3) := by decide +kernel
theorem dX4_countNear_57 : decode cX4_countNear 57 = .ok (.iinc 3 1, 3) := by decide +kernel
theorem dX4_countNear_60 : decode cX4_countNear 60 = .ok (.goto (-56), 3) := by decide +kernel
theorem dX4_countNear_63 : decode cX4_countNear 63 = .ok (.iload_n 2, 1) := by decide +kernel
theorem dX4_countNear_64 : decode cX4_countNear 64 = .ok (.ireturn, 1) := by decide +kernel
theorem dX4_liesBy_0 : decode cX4_liesBy 0 = .ok (.iconst 0, 1) := by decide +kernel
theorem dX4_liesBy_1 : decode cX4_liesBy 1 = .ok (.istore 4, 2) := by decide +kernel
theorem dX4_liesBy_3 : decode cX4_liesBy 3 = .ok (.iload 4, 2) := by decide +kernel
theorem dX4_liesBy_5 : decode cX4_liesBy 5 = .ok (.bipush 6, 2) := by decide +kernel
theorem dX4_liesBy_7 : decode cX4_liesBy 7 = .ok (.if_icmp .ge 23, 3) := by decide +kernel
theorem dX4_liesBy_10 : decode cX4_liesBy 10 = .ok (.aload_n 0, 1) := by decide +kernel
theorem dX4_liesBy_11 : decode cX4_liesBy 11 = .ok (.iload_n 1, 1) := by decide +kernel
theorem dX4_liesBy_12 : decode cX4_liesBy 12 = .ok (.iload_n 2, 1) := by decide +kernel
theorem dX4_liesBy_13 : decode cX4_liesBy 13 = .ok (.iload 4, 2) := by decide +kernel
theorem dX4_liesBy_15 : decode cX4_liesBy 15 = .ok (.invokevirtual 44, 3) := by decide +kernel
theorem dX4_liesBy_18 : decode cX4_liesBy 18 = .ok (.iload_n 3, 1) := by decide +kernel
theorem dX4_liesBy_19 : decode cX4_liesBy 19 = .ok (.if_icmp .le 5, 3) := by decide +kernel
theorem dX4_liesBy_22 : decode cX4_liesBy 22 = .ok (.iconst 0, 1) := by decide +kernel
theorem dX4_liesBy_23 : decode cX4_liesBy 23 = .ok (.ireturn, 1) := by decide +kernel
theorem dX4_liesBy_24 : decode cX4_liesBy 24 = .ok (.iinc 4 1, 3) := by decide +kernel
theorem dX4_liesBy_27 : decode cX4_liesBy 27 = .ok (.goto (-24), 3) := by decide +kernel
theorem dX4_liesBy_30 : decode cX4_liesBy 30 = .ok (.iconst 1, 1) := by decide +kernel
theorem dX4_liesBy_31 : decode cX4_liesBy 31 = .ok (.ireturn, 1) := by decide +kernel
theorem dX4_differsBy_0 : decode cX4_differsBy 0 = .ok (.aload_n 0, 1) := by decide +kernel
theorem dX4_differsBy_1 : decode cX4_differsBy 1 = .ok (.getfield 9, 3) := by decide +kernel
theorem dX4_differsBy_4 : decode cX4_differsBy 4 = .ok (.iload_n 3, 1) := by decide +kernel
theorem dX4_differsBy_5 : decode cX4_differsBy 5 = .ok (.iaload, 1) := by decide +kernel
theorem dX4_differsBy_6 : decode cX4_differsBy 6 = .ok (.iconst (-1), 1) := by decide +kernel
theorem dX4_differsBy_7 : decode cX4_differsBy 7 = .ok (.if_icmp .ne 5, 3) := by decide +kernel
theorem dX4_differsBy_10 : decode cX4_differsBy 10 = .ok (.iconst 0, 1) := by decide +kernel
theorem dX4_differsBy_11 : decode cX4_differsBy 11 = .ok (.ireturn, 1) := by decide +kernel
theorem dX4_differsBy_12 : decode cX4_differsBy 12 = .ok (.aload_n 0, 1) := by decide +kernel
theorem dX4_differsBy_13 : decode cX4_differsBy 13 = .ok (.getfield 9, 3) := by decide +kernel
theorem dX4_differsBy_16 : decode cX4_differsBy 16 = .ok (.iload_n 3, 1) := by decide +kernel
theorem dX4_differsBy_17 : decode cX4_differsBy 17 = .ok (.iaload, 1) := by decide +kernel
theorem dX4_differsBy_18 : decode cX4_differsBy 18 = .ok (.aload_n 0, 1) := by decide +kernel
theorem dX4_differsBy_19 : decode cX4_differsBy 19 = .ok (.getfield 15, 3) := by decide +kernel
theorem dX4_differsBy_22 : decode cX4_differsBy 22 = .ok (.getfield 35, 3) := by decide +kernel
theorem dX4_differsBy_25 : decode cX4_differsBy 25 = .ok (.iload_n 1, 1) := by decide +kernel
theorem dX4_differsBy_26 : decode cX4_differsBy 26 = .ok (.iload_n 2, 1) := by decide +kernel
theorem dX4_differsBy_27 : decode cX4_differsBy 27 = .ok (.iload_n 3, 1) := by decide +kernel
theorem dX4_differsBy_28 : decode cX4_differsBy 28 = .ok (.invokevirtual 48, 3) := by decide +kernel
theorem dX4_differsBy_31 : decode cX4_differsBy 31 = .ok (.isub, 1) := by decide +kernel
theorem dX4_differsBy_32 : decode cX4_differsBy 32 = .ok (.invokestatic 51, 3) := by decide +kernel
theorem dX4_differsBy_35 : decode cX4_differsBy 35 = .ok (.ireturn, 1) := by decide +kernel
theorem dX4_nearnessOf_0 : decode cX4_nearnessOf 0 = .ok (.iconst 0, 1) := by decide +kernel
theorem dX4_nearnessOf_1 : decode cX4_nearnessOf 1 = .ok (.istore_n 3, 1) := by decide +kernel
theorem dX4_nearnessOf_2 : decode cX4_nearnessOf 2 = .ok (.iconst 0, 1) := by decide +kernel
theorem dX4_nearnessOf_3 : decode cX4_nearnessOf 3 = .ok (.istore 4, 2) := by decide +kernel
theorem dX4_nearnessOf_5 : decode cX4_nearnessOf 5 = .ok (.iload 4, 2) := by decide +kernel
theorem dX4_nearnessOf_7 : decode cX4_nearnessOf 7 = .ok (.bipush 6, 2) := by decide +kernel
theorem dX4_nearnessOf_9 : decode cX4_nearnessOf 9 = .ok (.if_icmp .ge 20, 3) := by decide +kernel
theorem dX4_nearnessOf_12 : decode cX4_nearnessOf 12 = .ok (.iload_n 3, 1) := by decide +kernel
theorem dX4_nearnessOf_13 : decode cX4_nearnessOf 13 = .ok (.aload_n 0, 1) := by decide +kernel
theorem dX4_nearnessOf_14 : decode cX4_nearnessOf 14 = .ok (.iload_n 1, 1) := by decide +kernel
theorem dX4_nearnessOf_15 : decode cX4_nearnessOf 15 = .ok (.iload_n 2, 1) := by decide +kernel
theorem dX4_nearnessOf_16 : decode cX4_nearnessOf 16 = .ok (.iload 4, 2) := by decide +kernel
theorem dX4_nearnessOf_18 : decode cX4_nearnessOf 18 = .ok (.invokevirtual 44, 3) := by decide +kernel
theorem dX4_nearnessOf_21 : decode cX4_nearnessOf 21 = .ok (.iadd, 1) := by decide +kernel
theorem dX4_nearnessOf_22 : decode cX4_nearnessOf 22 = .ok (.istore_n 3, 1) := by decide +kernel
theorem dX4_nearnessOf_23 : decode cX4_nearnessOf 23 = .ok (.iinc 4 1, 3) := by decide +kernel
theorem dX4_nearnessOf_26 : decode cX4_nearnessOf 26 = .ok (.goto (-21), 3) := by decide +kernel
theorem dX4_nearnessOf_29 : decode cX4_nearnessOf 29 = .ok (.iload_n 3, 1) := by decide +kernel
theorem dX4_nearnessOf_30 : decode cX4_nearnessOf 30 = .ok (.ireturn, 1) := by decide +kernel
theorem dX4_findNearest_0 : decode cX4_findNearest 0 = .ok (.aload_n 0, 1) := by decide +kernel
theorem dX4_findNearest_1 : decode cX4_findNearest 1 = .ok (.sipush 1000, 3) := by decide +kernel
theorem dX4_findNearest_4 : decode cX4_findNearest 4 = .ok (.putfield 57, 3) := by decide +kernel
theorem dX4_findNearest_7 : decode cX4_findNearest 7 = .ok (.iconst 0, 1) := by decide +kernel
theorem dX4_findNearest_8 : decode cX4_findNearest 8 = .ok (.istore_n 1, 1) := by decide +kernel
theorem dX4_findNearest_9 : decode cX4_findNearest 9 = .ok (.iload_n 1, 1) := by decide +kernel
theorem dX4_findNearest_10 : decode cX4_findNearest 10 = .ok (.aload_n 0, 1) := by decide +kernel
theorem dX4_findNearest_11 : decode cX4_findNearest 11 = .ok (.getfield 15, 3) := by decide +kernel
theorem dX4_findNearest_14 : decode cX4_findNearest 14 = .ok (.getfield 25, 3) := by decide +kernel
theorem dX4_findNearest_17 : decode cX4_findNearest 17 = .ok (.if_icmp .ge 43, 3) := by decide +kernel
theorem dX4_findNearest_20 : decode cX4_findNearest 20 = .ok (.iconst 0, 1) := by decide +kernel
theorem dX4_findNearest_21 : decode cX4_findNearest 21 = .ok (.istore_n 2, 1) := by decide +kernel
theorem dX4_findNearest_22 : decode cX4_findNearest 22 = .ok (.iload_n 2, 1) := by decide +kernel
theorem dX4_findNearest_23 : decode cX4_findNearest 23 = .ok (.iconst 4, 1) := by decide +kernel
theorem dX4_findNearest_24 : decode cX4_findNearest 24 = .ok (.if_icmp .ge 30, 3) := by decide +kernel
theorem dX4_findNearest_27 : decode cX4_findNearest 27 = .ok (.aload_n 0, 1) := by decide +kernel
theorem dX4_findNearest_28 : decode cX4_findNearest 28 = .ok (.getfield 15, 3) := by decide +kernel
theorem dX4_findNearest_31 : decode cX4_findNearest 31 = .ok (.getfield 35, 3) := by decide +kernel
theorem dX4_findNearest_34 : decode cX4_findNearest 34 = .ok (.iload_n 1, 1) := by decide +kernel
theorem dX4_findNearest_35 : decode cX4_findNearest 35 = .ok (.iload_n 2, 1) := by decide +kernel
theorem dX4_findNearest_36 : decode cX4_findNearest 36 = .ok (.invokevirtual 38, 3) := by decide +kernel
theorem dX4_findNearest_39 : decode cX4_findNearest 39 = .ok (.ifCond .le 9, 3) := by decide +kernel
theorem dX4_findNearest_42 : decode cX4_findNearest 42 = .ok (.aload_n 0, 1) := by decide +kernel
theorem dX4_findNearest_43 : decode cX4_findNearest 43 = .ok (.iload_n 1, 1) := by decide +kernel
theorem dX4_findNearest_44 : decode cX4_findNearest 44 = .ok (.iload_n 2, 1) := by decide +kernel
theorem dX4_findNearest_45 : decode cX4_findNearest 45 = .ok (.invokevirtual 60, 3) := by decide +kernel
theorem dX4_findNearest_48 : decode cX4_findNearest 48 = .ok (.iinc 2 1, 3) := by decide +kernel
theorem dX4_findNearest_51 : decode cX4_findNearest 51 = .ok (.goto (-29), 3) := by decide +kernel
theorem dX4_findNearest_54 : decode cX4_findNearest 54 = .ok (.iinc 1 1, 3) := by decide +kernel
theorem dX4_findNearest_57 : decode cX4_findNearest 57 = .ok (.goto (-48), 3) := by decide +kernel
theorem dX4_findNearest_60 : decode cX4_findNearest 60 = .ok (.return_, 1) := by decide +kernel
theorem dX4_compare_0 : decode cX4_compare 0 = .ok (.aload_n 0, 1) := by decide +kernel
theorem dX4_compare_1 : decode cX4_compare 1 = .ok (.iload_n 1, 1) := by decide +kernel
theorem dX4_compare_2 : decode cX4_compare 2 = .ok (.iload_n 2, 1) := by decide +kernel
theorem dX4_compare_3 : decode cX4_compare 3 = .ok (.invokevirtual 64, 3) := by decide +kernel
theorem dX4_compare_6 : decode cX4_compare 6 = .ok (.istore_n 3, 1) := by decide +kernel
theorem dX4_compare_7 : decode cX4_compare 7 = .ok (.iload_n 3, 1) := by decide +kernel
theorem dX4_compare_8 : decode cX4_compare 8 = .ok (.aload_n 0, 1) := by decide +kernel
theorem dX4_compare_9 : decode cX4_compare 9 = .ok (.getfield 57, 3) := by decide +kernel
theorem dX4_compare_12 : decode cX4_compare 12 = .ok (.if_icmp .ge 29, 3) := by decide +kernel
theorem dX4_compare_15 : decode cX4_compare 15 = .ok (.aload_n 0, 1) := by decide +kernel
theorem dX4_compare_16 : decode cX4_compare 16 = .ok (.iload_n 3, 1) := by decide +kernel
theorem dX4_compare_17 : decode cX4_compare 17 = .ok (.putfield 57, 3) := by decide +kernel
theorem dX4_compare_20 : decode cX4_compare 20 = .ok (.aload_n 0, 1) := by decide +kernel
theorem dX4_compare_21 : decode cX4_compare 21 = .ok (.iload_n 1, 1) := by decide +kernel
theorem dX4_compare_22 : decode cX4_compare 22 = .ok (.putfield 67, 3) := by decide +kernel
theorem dX4_compare_25 : decode cX4_compare 25 = .ok (.aload_n 0, 1) := by decide +kernel
theorem dX4_compare_26 : decode cX4_compare 26 = .ok (.aload_n 0, 1) := by decide +kernel
theorem dX4_compare_27 : decode cX4_compare 27 = .ok (.getfield 15, 3) := by decide +kernel
theorem dX4_compare_30 : decode cX4_compare 30 = .ok (.getfield 35, 3) := by decide +kernel
theorem dX4_compare_33 : decode cX4_compare 33 = .ok (.iload_n 1, 1) := by decide +kernel
theorem dX4_compare_34 : decode cX4_compare 34 = .ok (.iload_n 2, 1) := by decide +kernel
theorem dX4_compare_35 : decode cX4_compare 35 = .ok (.invokevirtual 70, 3) := by decide +kernel
theorem dX4_compare_38 : decode cX4_compare 38 = .ok (.putfield 73, 3) := by decide +kernel
theorem dX4_compare_41 : decode cX4_compare 41 = .ok (.return_, 1) := by decide +kernel
theorem dX4_hourOf_0 : decode cX4_hourOf 0 = .ok (.bipush (-9), 2) := by decide +kernel
theorem dX4_hourOf_2 : decode cX4_hourOf 2 = .ok (.istore 4, 2) := by decide +kernel
theorem dX4_hourOf_4 : decode cX4_hourOf 4 = .ok (.iconst 0, 1) := by decide +kernel
theorem dX4_hourOf_5 : decode cX4_hourOf 5 = .ok (.istore 5, 2) := by decide +kernel
theorem dX4_hourOf_7 : decode cX4_hourOf 7 = .ok (.iload 5, 2) := by decide +kernel
theorem dX4_hourOf_9 : decode cX4_hourOf 9 = .ok (.aload_n 0, 1) := by decide +kernel
theorem dX4_hourOf_10 : decode cX4_hourOf 10 = .ok (.getfield 15, 3) := by decide +kernel
theorem dX4_hourOf_13 : decode cX4_hourOf 13 = .ok (.getfield 25, 3) := by decide +kernel
theorem dX4_hourOf_16 : decode cX4_hourOf 16 = .ok (.if_icmp .ge 39, 3) := by decide +kernel
theorem dX4_hourOf_19 : decode cX4_hourOf 19 = .ok (.aload_n 0, 1) := by decide +kernel
theorem dX4_hourOf_20 : decode cX4_hourOf 20 = .ok (.iload 5, 2) := by decide +kernel
theorem dX4_hourOf_22 : decode cX4_hourOf 22 = .ok (.iload_n 1, 1) := by decide +kernel
theorem dX4_hourOf_23 : decode cX4_hourOf 23 = .ok (.iload_n 2, 1) := by decide +kernel
theorem dX4_hourOf_24 : decode cX4_hourOf 24 = .ok (.invokevirtual 76, 3) := by decide +kernel
theorem dX4_hourOf_27 : decode cX4_hourOf 27 = .ok (.ifCond .eq 22, 3) := by decide +kernel
theorem dX4_hourOf_30 : decode cX4_hourOf 30 = .ok (.aload_n 0, 1) := by decide +kernel
theorem dX4_hourOf_31 : decode cX4_hourOf 31 = .ok (.getfield 15, 3) := by decide +kernel
theorem dX4_hourOf_34 : decode cX4_hourOf 34 = .ok (.getfield 79, 3) := by decide +kernel
theorem dX4_hourOf_37 : decode cX4_hourOf 37 = .ok (.iload 5, 2) := by decide +kernel
theorem dX4_hourOf_39 : decode cX4_hourOf 39 = .ok (.iaload, 1) := by decide +kernel
theorem dX4_hourOf_40 : decode cX4_hourOf 40 = .ok (.istore 4, 2) := by decide +kernel
theorem dX4_hourOf_42 : decode cX4_hourOf 42 = .ok (.iload_n 3, 1) := by decide +kernel
theorem dX4_hourOf_43 : decode cX4_hourOf 43 = .ok (.ifCond .ne 6, 3) := by decide +kernel
theorem dX4_hourOf_46 : decode cX4_hourOf 46 = .ok (.iload 4, 2) := by decide +kernel
theorem dX4_hourOf_48 : decode cX4_hourOf 48 = .ok (.ireturn, 1) := by decide +kernel
theorem dX4_hourOf_49 : decode cX4_hourOf 49 = .ok (.iinc 5 1, 3) := by decide +kernel
theorem dX4_hourOf_52 : decode cX4_hourOf 52 = .ok (.goto (-45), 3) := by decide +kernel
theorem dX4_hourOf_55 : decode cX4_hourOf 55 = .ok (.iload 4, 2) := by decide +kernel
theorem dX4_hourOf_57 : decode cX4_hourOf 57 = .ok (.ireturn, 1) := by decide +kernel
theorem dX4_hasNear_0 : decode cX4_hasNear 0 = .ok (.aload_n 0, 1) := by decide +kernel
theorem dX4_hasNear_1 : decode cX4_hasNear 1 = .ok (.getfield 15, 3) := by decide +kernel
theorem dX4_hasNear_4 : decode cX4_hasNear 4 = .ok (.getfield 82, 3) := by decide +kernel
theorem dX4_hasNear_7 : decode cX4_hasNear 7 = .ok (.iload_n 1, 1) := by decide +kernel
theorem dX4_hasNear_8 : decode cX4_hasNear 8 = .ok (.iaload, 1) := by decide +kernel
theorem dX4_hasNear_9 : decode cX4_hasNear 9 = .ok (.iload_n 2, 1) := by decide +kernel
theorem dX4_hasNear_10 : decode cX4_hasNear 10 = .ok (.iconst 2, 1) := by decide +kernel
theorem dX4_hasNear_11 : decode cX4_hasNear 11 = .ok (.idiv, 1) := by decide +kernel
theorem dX4_hasNear_12 : decode cX4_hasNear 12 = .ok (.if_icmp .eq 5, 3) := by decide +kernel
theorem dX4_hasNear_15 : decode cX4_hasNear 15 = .ok (.iconst 0, 1) := by decide +kernel
theorem dX4_hasNear_16 : decode cX4_hasNear 16 = .ok (.ireturn, 1) := by decide +kernel
theorem dX4_hasNear_17 : decode cX4_hasNear 17 = .ok (.iload_n 2, 1) := by decide +kernel
theorem dX4_hasNear_18 : decode cX4_hasNear 18 = .ok (.iconst 2, 1) := by decide +kernel
theorem dX4_hasNear_19 : decode cX4_hasNear 19 = .ok (.irem, 1) := by decide +kernel
theorem dX4_hasNear_20 : decode cX4_hasNear 20 = .ok (.istore 4, 2) := by decide +kernel
theorem dX4_hasNear_22 : decode cX4_hasNear 22 = .ok (.iload 4, 2) := by decide +kernel
theorem dX4_hasNear_24 : decode cX4_hasNear 24 = .ok (.iconst 4, 1) := by decide +kernel
theorem dX4_hasNear_25 : decode cX4_hasNear 25 = .ok (.if_icmp .ge 38, 3) := by decide +kernel
theorem dX4_hasNear_28 : decode cX4_hasNear 28 = .ok (.aload_n 0, 1) := by decide +kernel
theorem dX4_hasNear_29 : decode cX4_hasNear 29 = .ok (.getfield 15, 3) := by decide +kernel
theorem dX4_hasNear_32 : decode cX4_hasNear 32 = .ok (.getfield 35, 3) := by decide +kernel
theorem dX4_hasNear_35 : decode cX4_hasNear 35 = .ok (.iload_n 1, 1) := by decide +kernel
theorem dX4_hasNear_36 : decode cX4_hasNear 36 = .ok (.iload 4, 2) := by decide +kernel
theorem dX4_hasNear_38 : decode cX4_hasNear 38 = .ok (.invokevirtual 38, 3) := by decide +kernel
theorem dX4_hasNear_41 : decode cX4_hasNear 41 = .ok (.ifCond .le 16, 3) := by decide +kernel
theorem dX4_hasNear_44 : decode cX4_hasNear 44 = .ok (.aload_n 0, 1) := by decide +kernel
theorem dX4_hasNear_45 : decode cX4_hasNear 45 = .ok (.iload_n 1, 1) := by decide +kernel
theorem dX4_hasNear_46 : decode cX4_hasNear 46 = .ok (.iload 4, 2) := by decide +kernel
theorem dX4_hasNear_48 : decode cX4_hasNear 48 = .ok (.iload_n 3, 1) := by decide +kernel
theorem dX4_hasNear_49 : decode cX4_hasNear 49 = .ok (.invokevirtual 31, 3) := by decide +kernel
theorem dX4_hasNear_52 : decode cX4_hasNear 52 = .ok (.ifCond .eq 5, 3) := by decide +kernel
theorem dX4_hasNear_55 : decode cX4_hasNear 55 = .ok (.iconst 1, 1) := by decide +kernel
theorem dX4_hasNear_56 : decode cX4_hasNear 56 = .ok (.ireturn, 1) := by decide +kernel
theorem dX4_hasNear_57 : decode cX4_hasNear 57 = .ok (.iinc 4 2, 3) := by decide +kernel
theorem dX4_hasNear_60 : decode cX4_hasNear 60 = .ok (.goto (-38), 3) := by decide +kernel
theorem dX4_hasNear_63 : decode cX4_hasNear 63 = .ok (.iconst 0, 1) := by decide +kernel
theorem dX4_hasNear_64 : decode cX4_hasNear 64 = .ok (.ireturn, 1) := by decide +kernel
theorem dX5_init_0 : decode cX5_init 0 = .ok (.aload_n 0, 1) := by decide +kernel
theorem dX5_init_1 : decode cX5_init 1 = .ok (.invokespecial 3, 3) := by decide +kernel
theorem dX5_init_4 : decode cX5_init 4 = .ok (.aload_n 0, 1) := by decide +kernel
theorem dX5_init_5 : decode cX5_init 5 = .ok (.bipush 12, 2) := by decide +kernel
theorem dX5_init_7 : decode cX5_init 7 = .ok (.newarray .int, 2) := by decide +kernel
theorem dX5_init_9 : decode cX5_init 9 = .ok (.putfield 9, 3) := by decide +kernel
theorem dX5_init_12 : decode cX5_init 12 = .ok (.aload_n 0, 1) := by decide +kernel
theorem dX5_init_13 : decode cX5_init 13 = .ok (.bipush 12, 2) := by decide +kernel
theorem dX5_init_15 : decode cX5_init 15 = .ok (.newarray .int, 2) := by decide +kernel
theorem dX5_init_17 : decode cX5_init 17 = .ok (.putfield 15, 3) := by decide +kernel
theorem dX5_init_20 : decode cX5_init 20 = .ok (.aload_n 0, 1) := by decide +kernel
theorem dX5_init_21 : decode cX5_init 21 = .ok (.bipush 12, 2) := by decide +kernel
theorem dX5_init_23 : decode cX5_init 23 = .ok (.newarray .int, 2) := by decide +kernel
theorem dX5_init_25 : decode cX5_init 25 = .ok (.putfield 18, 3) := by decide +kernel
theorem dX5_init_28 : decode cX5_init 28 = .ok (.aload_n 0, 1) := by decide +kernel
theorem dX5_init_29 : decode cX5_init 29 = .ok (.bipush 12, 2) := by decide +kernel
theorem dX5_init_31 : decode cX5_init 31 = .ok (.newarray .int, 2) := by decide +kernel
theorem dX5_init_33 : decode cX5_init 33 = .ok (.putfield 21, 3) := by decide +kernel
theorem dX5_init_36 : decode cX5_init 36 = .ok (.aload_n 0, 1) := by decide +kernel
theorem dX5_init_37 : decode cX5_init 37 = .ok (.bipush 12, 2) := by decide +kernel
theorem dX5_init_39 : decode cX5_init 39 = .ok (.newarray .int, 2) := by decide +kernel
theorem dX5_init_41 : decode cX5_init 41 = .ok (.putfield 24, 3) := by decide +kernel
theorem dX5_init_44 : decode cX5_init 44 = .ok (.aload_n 0, 1) := by decide +kernel
theorem dX5_init_45 : decode cX5_init 45 = .ok (.bipush 12, 2) := by decide +kernel
theorem dX5_init_47 : decode cX5_init 47 = .ok (.newarray .int, 2) := by decide +kernel
theorem dX5_init_49 : decode cX5_init 49 = .ok (.putfield 27, 3) := by decide +kernel
theorem dX5_init_52 : decode cX5_init 52 = .ok (.aload_n 0, 1) := by decide +kernel
theorem dX5_init_53 : decode cX5_init 53 = .ok (.bipush 12, 2) := by decide +kernel
theorem dX5_init_55 : decode cX5_init 55 = .ok (.newarray .int, 2) := by decide +kernel
theorem dX5_init_57 : decode cX5_init 57 = .ok (.putfield 30, 3) := by decide +kernel
theorem dX5_init_60 : decode cX5_init 60 = .ok (.return_, 1) := by decide +kernel
theorem dX5_take_0 : decode cX5_take 0 = .ok (.aload_n 0, 1) := by decide +kernel
theorem dX5_take_1 : decode cX5_take 1 = .ok (.getfield 9, 3) := by decide +kernel
theorem dX5_take_4 : decode cX5_take 4 = .ok (.aload_n 0, 1) := by decide +kernel
theorem dX5_take_5 : decode cX5_take 5 = .ok (.getfield 33, 3) := by decide +kernel
theorem dX5_take_8 : decode cX5_take 8 = .ok (.iload_n 1, 1) := by decide +kernel
theorem dX5_take_9 : decode cX5_take 9 = .ok (.iastore, 1) := by decide +kernel
theorem dX5_take_10 : decode cX5_take 10 = .ok (.aload_n 0, 1) := by decide +kernel
theorem dX5_take_11 : decode cX5_take 11 = .ok (.getfield 15, 3) := by decide +kernel
theorem dX5_take_14 : decode cX5_take 14 = .ok (.aload_n 0, 1) := by decide +kernel
theorem dX5_take_15 : decode cX5_take 15 = .ok (.getfield 33, 3) := by decide +kernel
theorem dX5_take_18 : decode cX5_take 18 = .ok (.iload_n 2, 1) := by decide +kernel
theorem dX5_take_19 : decode cX5_take 19 = .ok (.iastore, 1) := by decide +kernel
theorem dX5_take_20 : decode cX5_take 20 = .ok (.aload_n 0, 1) := by decide +kernel
theorem dX5_take_21 : decode cX5_take 21 = .ok (.getfield 18, 3) := by decide +kernel
theorem dX5_take_24 : decode cX5_take 24 = .ok (.aload_n 0, 1) := by decide +kernel
theorem dX5_take_25 : decode cX5_take 25 = .ok (.getfield 33, 3) := by decide +kernel
theorem dX5_take_28 : decode cX5_take 28 = .ok (.iload_n 3, 1) := by decide +kernel
theorem dX5_take_29 : decode cX5_take 29 = .ok (.iastore, 1) := by decide +kernel
theorem dX5_take_30 : decode cX5_take 30 = .ok (.aload_n 0, 1) := by decide +kernel
theorem dX5_take_31 : decode cX5_take 31 = .ok (.getfield 21, 3) := by decide +kernel
theorem dX5_take_34 : decode cX5_take 34 = .ok (.aload_n 0, 1) := by decide +kernel
theorem dX5_take_35 : decode cX5_take 35 = .ok (.getfield 33, 3) := by decide +kernel
theorem dX5_take_38 : decode cX5_take 38 = .ok (.iload 4, 2) := by decide +kernel
theorem dX5_take_40 : decode cX5_take 40 = .ok (.iastore, 1) := by decide +kernel
theorem dX5_take_41 : decode cX5_take 41 = .ok (.aload_n 0, 1) := by decide +kernel
theorem dX5_take_42 : decode cX5_take 42 = .ok (.getfield 24, 3) := by decide +kernel
theorem dX5_take_45 : decode cX5_take 45 = .ok (.aload_n 0, 1) := by decide +kernel
theorem dX5_take_46 : decode cX5_take 46 = .ok (.getfield 33, 3) := by decide +kernel
theorem dX5_take_49 : decode cX5_take 49 = .ok (.iload 5, 2) := by decide +kernel
theorem dX5_take_51 : decode cX5_take 51 = .ok (.iastore, 1) := by decide +kernel
theorem dX5_take_52 : decode cX5_take 52 = .ok (.aload_n 0, 1) := by decide +kernel
theorem dX5_take_53 : decode cX5_take 53 = .ok (.getfield 27, 3) := by decide +kernel
theorem dX5_take_56 : decode cX5_take 56 = .ok (.aload_n 0, 1) := by decide +kernel
theorem dX5_take_57 : decode cX5_take 57 = .ok (.getfield 33, 3) := by decide +kernel
theorem dX5_take_60 : decode cX5_take 60 = .ok (.bipush (-9), 2) := by decide +kernel
theorem dX5_take_62 : decode cX5_take 62 = .ok (.iastore, 1) := by decide +kernel
theorem dX5_take_63 : decode cX5_take 63 = .ok (.aload_n 0, 1) := by decide +kernel
theorem dX5_take_64 : decode cX5_take 64 = .ok (.dup, 1) := by decide +kernel
theorem dX5_take_65 : decode cX5_take 65 = .ok (.getfield 33, 3) := by decide +kernel
theorem dX5_take_68 : decode cX5_take 68 = .ok (.iconst 1, 1) := by decide +kernel
theorem dX5_take_69 : decode cX5_take 69 = .ok (.iadd, 1) := by decide +kernel
theorem dX5_take_70 : decode cX5_take 70 = .ok (.putfield 33, 3) := by decide +kernel
theorem dX5_take_73 : decode cX5_take 73 = .ok (.aload_n 0, 1) := by decide +kernel
theorem dX5_take_74 : decode cX5_take 74 = .ok (.getfield 33, 3) := by decide +kernel
theorem dX5_take_77 : decode cX5_take 77 = .ok (.iconst 1, 1) := by decide +kernel
theorem dX5_take_78 : decode cX5_take 78 = .ok (.isub, 1) := by decide +kernel
theorem dX5_take_79 : decode cX5_take 79 = .ok (.ireturn, 1) := by decide +kernel
theorem dX5_isOpen_0 : decode cX5_isOpen 0 = .ok (.aload_n 0, 1) := by decide +kernel
theorem dX5_isOpen_1 : decode cX5_isOpen 1 = .ok (.getfield 27, 3) := by decide +kernel
theorem dX5_isOpen_4 : decode cX5_isOpen 4 = .ok (.iload_n 1, 1) := by decide +kernel
theorem dX5_isOpen_5 : decode cX5_isOpen 5 = .ok (.iaload, 1) := by decide +kernel
theorem dX5_isOpen_6 : decode cX5_isOpen 6 = .ok (.bipush (-9), 2) := by decide +kernel
theorem dX5_isOpen_8 : decode cX5_isOpen 8 = .ok (.if_icmp .ne 7, 3) := by decide +kernel
theorem dX5_isOpen_11 : decode cX5_isOpen 11 = .ok (.iconst 1, 1) := by decide +kernel
theorem dX5_isOpen_12 : decode cX5_isOpen 12 = .ok (.goto 4, 3) := by decide +kernel
theorem dX5_isOpen_15 : decode cX5_isOpen 15 = .ok (.iconst 0, 1) := by decide +kernel
theorem dX5_isOpen_16 : decode cX5_isOpen 16 = .ok (.ireturn, 1) := by decide +kernel
theorem dX5_open_0 : decode cX5_open 0 = .ok (.iconst 0, 1) := by decide +kernel
theorem dX5_open_1 : decode cX5_open 1 = .ok (.istore_n 1, 1) := by decide +kernel
theorem dX5_open_2 : decode cX5_open 2 = .ok (.iconst 0, 1) := by decide +kernel
theorem dX5_open_3 : decode cX5_open 3 = .ok (.istore_n 2, 1) := by decide +kernel
theorem dX5_open_4 : decode cX5_open 4 = .ok (.iload_n 2, 1) := by decide +kernel
theorem dX5_open_5 : decode cX5_open 5 = .ok (.aload_n 0, 1) := by decide +kernel
theorem dX5_open_6 : decode cX5_open 6 = .ok (.getfield 33, 3) := by decide +kernel
theorem dX5_open_9 : decode cX5_open 9 = .ok (.if_icmp .ge 20, 3) := by decide +kernel
theorem dX5_open_12 : decode cX5_open 12 = .ok (.aload_n 0, 1) := by decide +kernel
theorem dX5_open_13 : decode cX5_open 13 = .ok (.iload_n 2, 1) := by decide +kernel
theorem dX5_open_14 : decode cX5_open 14 = .ok (.invokevirtual 37, 3) := by decide +kernel
theorem dX5_open_17 : decode cX5_open 17 = .ok (.ifCond .eq 6, 3) := by decide +kernel
theorem dX5_open_20 : decode cX5_open 20 = .ok (.iinc 1 1, 3) := by decide +kernel
theorem dX5_open_23 : decode cX5_open 23 = .ok (.iinc 2 1, 3) := by decide +kernel
theorem dX5_open_26 : decode cX5_open 26 = .ok (.goto (-22), 3) := by decide +kernel
theorem dX5_open_29 : decode cX5_open 29 = .ok (.iload_n 1, 1) := by decide +kernel
theorem dX5_open_30 : decode cX5_open 30 = .ok (.ireturn, 1) := by decide +kernel
theorem dX5_coinsFor_0 : decode cX5_coinsFor 0 = .ok (.iload_n 2, 1) := by decide +kernel
theorem dX5_coinsFor_1 : decode cX5_coinsFor 1 = .ok (.aload_n 0, 1) := by decide +kernel
theorem dX5_coinsFor_2 : decode cX5_coinsFor 2 = .ok (.getfield 21, 3) := by decide +kernel
theorem dX5_coinsFor_5 : decode cX5_coinsFor 5 = .ok (.iload_n 1, 1) := by decide +kernel
theorem dX5_coinsFor_6 : decode cX5_coinsFor 6 = .ok (.iaload, 1) := by decide +kernel
theorem dX5_coinsFor_7 : decode cX5_coinsFor 7 = .ok (.if_icmp .le 14, 3) := by decide +kernel
theorem dX5_coinsFor_10 : decode cX5_coinsFor 10 = .ok (.aload_n 0, 1) := by decide +kernel
theorem dX5_coinsFor_11 : decode cX5_coinsFor 11 = .ok (.getfield 24, 3) := by decide +kernel
theorem dX5_coinsFor_14 : decode cX5_coinsFor 14 = .ok (.iload_n 1, 1) := by decide +kernel
theorem dX5_coinsFor_15 : decode cX5_coinsFor 15 = .ok (.iaload, 1) := by decide +kernel
theorem dX5_coinsFor_16 : decode cX5_coinsFor 16 = .ok (.iconst 2, 1) := by decide +kernel
theorem dX5_coinsFor_17 : decode cX5_coinsFor 17 = .ok (.idiv, 1) := by decide +kernel
theorem dX5_coinsFor_18 : decode cX5_coinsFor 18 = .ok (.goto 9, 3) := by decide +kernel
theorem dX5_coinsFor_21 : decode cX5_coinsFor 21 = .ok (.aload_n 0, 1) := by decide +kernel
theorem dX5_coinsFor_22 : decode cX5_coinsFor 22 = .ok (.getfield 24, 3) := by decide +kernel
theorem dX5_coinsFor_25 : decode cX5_coinsFor 25 = .ok (.iload_n 1, 1) := by decide +kernel
theorem dX5_coinsFor_26 : decode cX5_coinsFor 26 = .ok (.iaload, 1) := by decide +kernel
theorem dX5_coinsFor_27 : decode cX5_coinsFor 27 = .ok (.istore 4, 2) := by decide +kernel
theorem dX5_coinsFor_29 : decode cX5_coinsFor 29 = .ok (.aload_n 0, 1) := by decide +kernel
theorem dX5_coinsFor_30 : decode cX5_coinsFor 30 = .ok (.getfield 18, 3) := by decide +kernel
theorem dX5_coinsFor_33 : decode cX5_coinsFor 33 = .ok (.iload_n 1, 1) := by decide +kernel
theorem dX5_coinsFor_34 : decode cX5_coinsFor 34 = .ok (.iaload, 1) := by decide +kernel
theorem dX5_coinsFor_35 : decode cX5_coinsFor 35 = .ok (.iload 4, 2) := by decide +kernel
theorem dX5_coinsFor_37 : decode cX5_coinsFor 37 = .ok (.iload_n 3, 1) := by decide +kernel
theorem dX5_coinsFor_38 : decode cX5_coinsFor 38 = .ok (.isub, 1) := by decide +kernel
theorem dX5_coinsFor_39 : decode cX5_coinsFor 39 = .ok (.imul, 1) := by decide +kernel
theorem dX5_coinsFor_40 : decode cX5_coinsFor 40 = .ok (.ireturn, 1) := by decide +kernel
theorem dX5_plan_0 : decode cX5_plan 0 = .ok (.aload_n 0, 1) := by decide +kernel
theorem dX5_plan_1 : decode cX5_plan 1 = .ok (.invokevirtual 41, 3) := by decide +kernel
theorem dX5_plan_4 : decode cX5_plan 4 = .ok (.istore_n 3, 1) := by decide +kernel
theorem dX5_plan_5 : decode cX5_plan 5 = .ok (.aload_n 0, 1) := by decide +kernel
theorem dX5_plan_6 : decode cX5_plan 6 = .ok (.iconst 0, 1) := by decide +kernel
theorem dX5_plan_7 : decode cX5_plan 7 = .ok (.putfield 45, 3) := by decide +kernel
theorem dX5_plan_10 : decode cX5_plan 10 = .ok (.aload_n 0, 1) := by decide +kernel
theorem dX5_plan_11 : decode cX5_plan 11 = .ok (.iconst 0, 1) := by decide +kernel
theorem dX5_plan_12 : decode cX5_plan 12 = .ok (.putfield 48, 3) := by decide +kernel
theorem dX5_plan_15 : decode cX5_plan 15 = .ok (.iconst 1, 1) := by decide +kernel
theorem dX5_plan_16 : decode cX5_plan 16 = .ok (.istore 4, 2) := by decide +kernel
theorem dX5_plan_18 : decode cX5_plan 18 = .ok (.iload 4, 2) := by decide +kernel
theorem dX5_plan_20 : decode cX5_plan 20 = .ok (.iconst 1, 1) := by decide +kernel
theorem dX5_plan_21 : decode cX5_plan 21 = .ok (.iload_n 3, 1) := by decide +kernel
theorem dX5_plan_22 : decode cX5_plan 22 = .ok (.ishl, 1) := by decide +kernel
theorem dX5_plan_23 : decode cX5_plan 23 = .ok (.if_icmp .ge 18, 3) := by decide +kernel
theorem dX5_plan_26 : decode cX5_plan 26 = .ok (.aload_n 0, 1) := by decide +kernel
theorem dX5_plan_27 : decode cX5_plan 27 = .ok (.iload 4, 2) := by decide +kernel
theorem dX5_plan_29 : decode cX5_plan 29 = .ok (.iload_n 3, 1) := by decide +kernel
theorem dX5_plan_30 : decode cX5_plan 30 = .ok (.iload_n 1, 1) := by decide +kernel
theorem dX5_plan_31 : decode cX5_plan 31 = .ok (.iload_n 2, 1) := by decide +kernel
theorem dX5_plan_32 : decode cX5_plan 32 = .ok (.invokevirtual 51, 3) := by decide +kernel
theorem dX5_plan_35 : decode cX5_plan 35 = .ok (.iinc 4 1, 3) := by decide +kernel
theorem dX5_plan_38 : decode cX5_plan 38 = .ok (.goto (-20), 3) := by decide +kernel
theorem dX5_plan_41 : decode cX5_plan 41 = .ok (.return_, 1) := by decide +kernel
theorem dX5_sortByDue_0 : decode cX5_sortByDue 0 = .ok (.iconst 0, 1) := by decide +kernel
theorem dX5_sortByDue_1 : decode cX5_sortByDue 1 = .ok (.istore_n 1, 1) := by decide +kernel
theorem dX5_sortByDue_2 : decode cX5_sortByDue 2 = .ok (.iconst 0, 1) := by decide +kernel
theorem dX5_sortByDue_3 : decode cX5_sortByDue 3 = .ok (.istore_n 2, 1) := by decide +kernel
theorem dX5_sortByDue_4 : decode cX5_sortByDue 4 = .ok (.iload_n 2, 1) := by decide +kernel
theorem dX5_sortByDue_5 : decode cX5_sortByDue 5 = .ok (.aload_n 0, 1) := by decide +kernel
theorem dX5_sortByDue_6 : decode cX5_sortByDue 6 = .ok (.getfield 33, 3) := by decide +kernel
theorem dX5_sortByDue_9 : decode cX5_sortByDue 9 = .ok (.if_icmp .ge 78, 3) := by decide +kernel
theorem dX5_sortByDue_12 : decode cX5_sortByDue 12 = .ok (.aload_n 0, 1) := by decide +kernel
theorem dX5_sortByDue_13 : decode cX5_sortByDue 13 = .ok (.iload_n 2, 1) := by decide +kernel
theorem dX5_sortByDue_14 : decode cX5_sortByDue 14 = .ok (.invokevirtual 37, 3) := by decide +kernel
theorem dX5_sortByDue_17 : decode cX5_sortByDue 17 = .ok (.ifCond .ne 6, 3) := by decide +kernel
theorem dX5_sortByDue_20 : decode cX5_sortByDue 20 = .ok (.goto 61, 3) := by decide +kernel
theorem dX5_sortByDue_23 : decode cX5_sortByDue 23 = .ok (.iload_n 1, 1) := by decide +kernel
theorem dX5_sortByDue_24 : decode cX5_sortByDue 24 = .ok (.istore_n 3, 1) := by decide +kernel
theorem dX5_sortByDue_25 : decode cX5_sortByDue 25 = .ok (.iload_n 3, 1) := by decide +kernel
theorem dX5_sortByDue_26 : decode cX5_sortByDue 26 = .ok (.ifCond .le 45, 3) := by decide +kernel
theorem dX5_sortByDue_29 : decode cX5_sortByDue 29 = .ok (.aload_n 0, 1) := by decide +kernel
theorem dX5_sortByDue_30 : decode cX5_sortByDue 30 = .ok (.getfield 21, 3) := by decide +kernel
theorem dX5_sortByDue_33 : decode cX5_sortByDue 33 = .ok (.aload_n 0, 1) := by decide +kernel
theorem dX5_sortByDue_34 : decode cX5_sortByDue 34 = .ok (.getfield 30, 3) := by decide +kernel
theorem dX5_sortByDue_37 : decode cX5_sortByDue 37 = .ok (.iload_n 3, 1) := by decide +kernel
theorem dX5_sortByDue_38 : decode cX5_sortByDue 38 = .ok (.iconst 1, 1) := by decide +kernel
theorem dX5_sortByDue_39 : decode cX5_sortByDue 39 = .ok (.isub, 1) := by decide +kernel
theorem dX5_sortByDue_40 : decode cX5_sortByDue 40 = .ok (.iaload, 1) := by decide +kernel
theorem dX5_sortByDue_41 : decode cX5_sortByDue 41 = .ok (.iaload, 1) := by decide +kernel
theorem dX5_sortByDue_42 : decode cX5_sortByDue 42 = .ok (.aload_n 0, 1) := by decide +kernel
theorem dX5_sortByDue_43 : decode cX5_sortByDue 43 = .ok (.getfield 21, 3) := by decide +kernel
theorem dX5_sortByDue_46 : decode cX5_sortByDue 46 = .ok (.iload_n 2, 1) := by decide +kernel
theorem dX5_sortByDue_47 : decode cX5_sortByDue 47 = .ok (.iaload, 1) := by decide +kernel
theorem dX5_sortByDue_48 : decode cX5_sortByDue 48 = .ok (.if_icmp .le 23, 3) := by decide +kernel
theorem dX5_sortByDue_51 : decode cX5_sortByDue 51 = .ok (.aload_n 0, 1) := by decide +kernel
theorem dX5_sortByDue_52 : decode cX5_sortByDue 52 = .ok (.getfield 30, 3) := by decide +kernel
theorem dX5_sortByDue_55 : decode cX5_sortByDue 55 = .ok (.iload_n 3, 1) := by decide +kernel
theorem dX5_sortByDue_56 : decode cX5_sortByDue 56 = .ok (.aload_n 0, 1) := by decide +kernel
theorem dX5_sortByDue_57 : decode cX5_sortByDue 57 = .ok (.getfield 30, 3) := by decide +kernel
theorem dX5_sortByDue_60 : decode cX5_sortByDue 60 = .ok (.iload_n 3, 1) := by decide +kernel
theorem dX5_sortByDue_61 : decode cX5_sortByDue 61 = .ok (.iconst 1, 1) := by decide +kernel
theorem dX5_sortByDue_62 : decode cX5_sortByDue 62 = .ok (.isub, 1) := by decide +kernel
theorem dX5_sortByDue_63 : decode cX5_sortByDue 63 = .ok (.iaload, 1) := by decide +kernel
theorem dX5_sortByDue_64 : decode cX5_sortByDue 64 = .ok (.iastore, 1) := by decide +kernel
theorem dX5_sortByDue_65 : decode cX5_sortByDue 65 = .ok (.iinc 3 (-1), 3) := by decide +kernel
theorem dX5_sortByDue_68 : decode cX5_sortByDue 68 = .ok (.goto (-43), 3) := by decide +kernel
theorem dX5_sortByDue_71 : decode cX5_sortByDue 71 = .ok (.aload_n 0, 1) := by decide +kernel
theorem dX5_sortByDue_72 : decode cX5_sortByDue 72 = .ok (.getfield 30, 3) := by decide +kernel
theorem dX5_sortByDue_75 : decode cX5_sortByDue 75 = .ok (.iload_n 3, 1) := by decide +kernel
theorem dX5_sortByDue_76 : decode cX5_sortByDue 76 = .ok (.iload_n 2, 1) := by decide +kernel
theorem dX5_sortByDue_77 : decode cX5_sortByDue 77 = .ok (.iastore, 1) := by decide +kernel
theorem dX5_sortByDue_78 : decode cX5_sortByDue 78 = .ok (.iinc 1 1, 3) := by decide +kernel
theorem dX5_sortByDue_81 : decode cX5_sortByDue 81 = .ok (.iinc 2 1, 3) := by decide +kernel
theorem dX5_sortByDue_84 : decode cX5_sortByDue 84 = .ok (.goto (-80), 3) := by decide +kernel
theorem dX5_sortByDue_87 : decode cX5_sortByDue 87 = .ok (.iload_n 1, 1) := by decide +kernel
theorem dX5_sortByDue_88 : decode cX5_sortByDue 88 = .ok (.ireturn, 1) := by decide +kernel
theorem dX5_weigh_0 : decode cX5_weigh 0 = .ok (.iconst 0, 1) := by decide +kernel
theorem dX5_weigh_1 : decode cX5_weigh 1 = .ok (.istore 5, 2) := by decide +kernel
theorem dX5_weigh_3 : decode cX5_weigh 3 = .ok (.iconst 0, 1) := by decide +kernel
theorem dX5_weigh_4 : decode cX5_weigh 4 = .ok (.istore 6, 2) := by decide +kernel
theorem dX5_weigh_6 : decode cX5_weigh 6 = .ok (.iconst 0, 1) := by decide +kernel
theorem dX5_weigh_7 : decode cX5_weigh 7 = .ok (.istore 7, 2) := by decide +kernel
theorem dX5_weigh_9 : decode cX5_weigh 9 = .ok (.iconst 0, 1) := by decide +kernel
theorem dX5_weigh_10 : decode cX5_weigh 10 = .ok (.istore 8, 2) := by decide +kernel
theorem dX5_weigh_12 : decode cX5_weigh 12 = .ok (.iload 8, 2) := by decide +kernel
theorem dX5_weigh_14 : decode cX5_weigh 14 = .ok (.iload_n 2, 1) := by decide +kernel
theorem dX5_weigh_15 : decode cX5_weigh 15 = .ok (.if_icmp .ge 95, 3) := by decide +kernel
