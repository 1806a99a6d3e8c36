theorem dX5_weigh_18 : decode cX5_weigh 18 = .ok (.iload_n 1, 1) := by decide +kernel
theorem dX5_weigh_19 : decode cX5_weigh 19 = .ok (.iload 8, 2) := by decide +kernel
theorem dX5_weigh_21 : decode cX5_weigh 21 = .ok (.ishr, 1) := by decide +kernel
theorem dX5_weigh_22 : decode cX5_weigh 22 = .ok (.iconst 1, 1) := by decide +kernel
theorem dX5_weigh_23 : decode cX5_weigh 23 = .ok (.iand, 1) := by decide +kernel
theorem dX5_weigh_24 : decode cX5_weigh 24 = .ok (.ifCond .ne 6, 3) := by decide +kernel
theorem dX5_weigh_27 : decode cX5_weigh 27 = .ok (.goto 77, 3) := by decide +kernel
theorem dX5_weigh_30 : decode cX5_weigh 30 = .ok (.aload_n 0, 1) := by decide +kernel
theorem dX5_weigh_31 : decode cX5_weigh 31 = .ok (.getfield 30, 3) := by decide +kernel
theorem dX5_weigh_34 : decode cX5_weigh 34 = .ok (.iload 8, 2) := by decide +kernel
theorem dX5_weigh_36 : decode cX5_weigh 36 = .ok (.iaload, 1) := by decide +kernel
theorem dX5_weigh_37 : decode cX5_weigh 37 = .ok (.istore 9, 2) := by decide +kernel
theorem dX5_weigh_39 : decode cX5_weigh 39 = .ok (.iload 5, 2) := by decide +kernel
theorem dX5_weigh_41 : decode cX5_weigh 41 = .ok (.aload_n 0, 1) := by decide +kernel
theorem dX5_weigh_42 : decode cX5_weigh 42 = .ok (.getfield 18, 3) := by decide +kernel
theorem dX5_weigh_45 : decode cX5_weigh 45 = .ok (.iload 9, 2) := by decide +kernel
theorem dX5_weigh_47 : decode cX5_weigh 47 = .ok (.iaload, 1) := by decide +kernel
theorem dX5_weigh_48 : decode cX5_weigh 48 = .ok (.iadd, 1) := by decide +kernel
theorem dX5_weigh_49 : decode cX5_weigh 49 = .ok (.istore 5, 2) := by decide +kernel
theorem dX5_weigh_51 : decode cX5_weigh 51 = .ok (.iload 5, 2) := by decide +kernel
theorem dX5_weigh_53 : decode cX5_weigh 53 = .ok (.sipush 480, 3) := by decide +kernel
theorem dX5_weigh_56 : decode cX5_weigh 56 = .ok (.imul, 1) := by decide +kernel
theorem dX5_weigh_57 : decode cX5_weigh 57 = .ok (.aload_n 0, 1) := by decide +kernel
theorem dX5_weigh_58 : decode cX5_weigh 58 = .ok (.getfield 21, 3) := by decide +kernel
theorem dX5_weigh_61 : decode cX5_weigh 61 = .ok (.iload 9, 2) := by decide +kernel
theorem dX5_weigh_63 : decode cX5_weigh 63 = .ok (.iaload, 1) := by decide +kernel
theorem dX5_weigh_64 : decode cX5_weigh 64 = .ok (.iconst 1, 1) := by decide +kernel
theorem dX5_weigh_65 : decode cX5_weigh 65 = .ok (.iadd, 1) := by decide +kernel
theorem dX5_weigh_66 : decode cX5_weigh 66 = .ok (.iload 4, 2) := by decide +kernel
theorem dX5_weigh_68 : decode cX5_weigh 68 = .ok (.isub, 1) := by decide +kernel
theorem dX5_weigh_69 : decode cX5_weigh 69 = .ok (.iload_n 3, 1) := by decide +kernel
theorem dX5_weigh_70 : decode cX5_weigh 70 = .ok (.imul, 1) := by decide +kernel
theorem dX5_weigh_71 : decode cX5_weigh 71 = .ok (.if_icmp .le 4, 3) := by decide +kernel
theorem dX5_weigh_74 : decode cX5_weigh 74 = .ok (.return_, 1) := by decide +kernel
theorem dX5_weigh_75 : decode cX5_weigh 75 = .ok (.iload 6, 2) := by decide +kernel
theorem dX5_weigh_77 : decode cX5_weigh 77 = .ok (.aload_n 0, 1) := by decide +kernel
theorem dX5_weigh_78 : decode cX5_weigh 78 = .ok (.getfield 24, 3) := by decide +kernel
theorem dX5_weigh_81 : decode cX5_weigh 81 = .ok (.iload 9, 2) := by decide +kernel
theorem dX5_weigh_83 : decode cX5_weigh 83 = .ok (.iaload, 1) := by decide +kernel
theorem dX5_weigh_84 : decode cX5_weigh 84 = .ok (.aload_n 0, 1) := by decide +kernel
theorem dX5_weigh_85 : decode cX5_weigh 85 = .ok (.getfield 18, 3) := by decide +kernel
theorem dX5_weigh_88 : decode cX5_weigh 88 = .ok (.iload 9, 2) := by decide +kernel
theorem dX5_weigh_90 : decode cX5_weigh 90 = .ok (.iaload, 1) := by decide +kernel
theorem dX5_weigh_91 : decode cX5_weigh 91 = .ok (.imul, 1) := by decide +kernel
theorem dX5_weigh_92 : decode cX5_weigh 92 = .ok (.iadd, 1) := by decide +kernel
theorem dX5_weigh_93 : decode cX5_weigh 93 = .ok (.istore 6, 2) := by decide +kernel
theorem dX5_weigh_95 : decode cX5_weigh 95 = .ok (.iload 7, 2) := by decide +kernel
theorem dX5_weigh_97 : decode cX5_weigh 97 = .ok (.iconst 1, 1) := by decide +kernel
theorem dX5_weigh_98 : decode cX5_weigh 98 = .ok (.iload 9, 2) := by decide +kernel
theorem dX5_weigh_100 : decode cX5_weigh 100 = .ok (.ishl, 1) := by decide +kernel
theorem dX5_weigh_101 : decode cX5_weigh 101 = .ok (.ior, 1) := by decide +kernel
theorem dX5_weigh_102 : decode cX5_weigh 102 = .ok (.istore 7, 2) := by decide +kernel
theorem dX5_weigh_104 : decode cX5_weigh 104 = .ok (.iinc 8 1, 3) := by decide +kernel
theorem dX5_weigh_107 : decode cX5_weigh 107 = .ok (.goto (-95), 3) := by decide +kernel
theorem dX5_weigh_110 : decode cX5_weigh 110 = .ok (.aload_n 0, 1) := by decide +kernel
theorem dX5_weigh_111 : decode cX5_weigh 111 = .ok (.iload 6, 2) := by decide +kernel
theorem dX5_weigh_113 : decode cX5_weigh 113 = .ok (.iload 7, 2) := by decide +kernel
theorem dX5_weigh_115 : decode cX5_weigh 115 = .ok (.invokevirtual 55, 3) := by decide +kernel
theorem dX5_weigh_118 : decode cX5_weigh 118 = .ok (.ifCond .eq 15, 3) := by decide +kernel
theorem dX5_weigh_121 : decode cX5_weigh 121 = .ok (.aload_n 0, 1) := by decide +kernel
theorem dX5_weigh_122 : decode cX5_weigh 122 = .ok (.iload 6, 2) := by decide +kernel
theorem dX5_weigh_124 : decode cX5_weigh 124 = .ok (.putfield 48, 3) := by decide +kernel
theorem dX5_weigh_127 : decode cX5_weigh 127 = .ok (.aload_n 0, 1) := by decide +kernel
theorem dX5_weigh_128 : decode cX5_weigh 128 = .ok (.iload 7, 2) := by decide +kernel
theorem dX5_weigh_130 : decode cX5_weigh 130 = .ok (.putfield 45, 3) := by decide +kernel
theorem dX5_weigh_133 : decode cX5_weigh 133 = .ok (.return_, 1) := by decide +kernel
theorem dX5_isBetter_0 : decode cX5_isBetter 0 = .ok (.iload_n 1, 1) := by decide +kernel
theorem dX5_isBetter_1 : decode cX5_isBetter 1 = .ok (.aload_n 0, 1) := by decide +kernel
theorem dX5_isBetter_2 : decode cX5_isBetter 2 = .ok (.getfield 48, 3) := by decide +kernel
theorem dX5_isBetter_5 : decode cX5_isBetter 5 = .ok (.if_icmp .eq 17, 3) := by decide +kernel
theorem dX5_isBetter_8 : decode cX5_isBetter 8 = .ok (.iload_n 1, 1) := by decide +kernel
theorem dX5_isBetter_9 : decode cX5_isBetter 9 = .ok (.aload_n 0, 1) := by decide +kernel
theorem dX5_isBetter_10 : decode cX5_isBetter 10 = .ok (.getfield 48, 3) := by decide +kernel
theorem dX5_isBetter_13 : decode cX5_isBetter 13 = .ok (.if_icmp .le 7, 3) := by decide +kernel
theorem dX5_isBetter_16 : decode cX5_isBetter 16 = .ok (.iconst 1, 1) := by decide +kernel
theorem dX5_isBetter_17 : decode cX5_isBetter 17 = .ok (.goto 4, 3) := by decide +kernel
theorem dX5_isBetter_20 : decode cX5_isBetter 20 = .ok (.iconst 0, 1) := by decide +kernel
theorem dX5_isBetter_21 : decode cX5_isBetter 21 = .ok (.ireturn, 1) := by decide +kernel
theorem dX5_isBetter_22 : decode cX5_isBetter 22 = .ok (.iload_n 2, 1) := by decide +kernel
theorem dX5_isBetter_23 : decode cX5_isBetter 23 = .ok (.invokestatic 59, 3) := by decide +kernel
theorem dX5_isBetter_26 : decode cX5_isBetter 26 = .ok (.aload_n 0, 1) := by decide +kernel
theorem dX5_isBetter_27 : decode cX5_isBetter 27 = .ok (.getfield 45, 3) := by decide +kernel
theorem dX5_isBetter_30 : decode cX5_isBetter 30 = .ok (.invokestatic 59, 3) := by decide +kernel
theorem dX5_isBetter_33 : decode cX5_isBetter 33 = .ok (.invokestatic 65, 3) := by decide +kernel
theorem dX5_isBetter_36 : decode cX5_isBetter 36 = .ok (.istore_n 3, 1) := by decide +kernel
theorem dX5_isBetter_37 : decode cX5_isBetter 37 = .ok (.iload_n 3, 1) := by decide +kernel
theorem dX5_isBetter_38 : decode cX5_isBetter 38 = .ok (.ifCond .eq 15, 3) := by decide +kernel
theorem dX5_isBetter_41 : decode cX5_isBetter 41 = .ok (.iload_n 3, 1) := by decide +kernel
theorem dX5_isBetter_42 : decode cX5_isBetter 42 = .ok (.ifCond .ge 7, 3) := by decide +kernel
theorem dX5_isBetter_45 : decode cX5_isBetter 45 = .ok (.iconst 1, 1) := by decide +kernel
theorem dX5_isBetter_46 : decode cX5_isBetter 46 = .ok (.goto 20, 3) := by decide +kernel
theorem dX5_isBetter_49 : decode cX5_isBetter 49 = .ok (.iconst 0, 1) := by decide +kernel
theorem dX5_isBetter_50 : decode cX5_isBetter 50 = .ok (.goto 16, 3) := by decide +kernel
theorem dX5_isBetter_53 : decode cX5_isBetter 53 = .ok (.iload_n 2, 1) := by decide +kernel
theorem dX5_isBetter_54 : decode cX5_isBetter 54 = .ok (.aload_n 0, 1) := by decide +kernel
theorem dX5_isBetter_55 : decode cX5_isBetter 55 = .ok (.getfield 45, 3) := by decide +kernel
theorem dX5_isBetter_58 : decode cX5_isBetter 58 = .ok (.if_icmp .ge 7, 3) := by decide +kernel
theorem dX5_isBetter_61 : decode cX5_isBetter 61 = .ok (.iconst 1, 1) := by decide +kernel
theorem dX5_isBetter_62 : decode cX5_isBetter 62 = .ok (.goto 4, 3) := by decide +kernel
theorem dX5_isBetter_65 : decode cX5_isBetter 65 = .ok (.iconst 0, 1) := by decide +kernel
theorem dX5_isBetter_66 : decode cX5_isBetter 66 = .ok (.ireturn, 1) := by decide +kernel
theorem dX6_init_0 : decode cX6_init 0 = .ok (.aload_n 0, 1) := by decide +kernel
theorem dX6_init_1 : decode cX6_init 1 = .ok (.invokespecial 3, 3) := by decide +kernel
theorem dX6_init_4 : decode cX6_init 4 = .ok (.aload_n 0, 1) := by decide +kernel
theorem dX6_init_5 : decode cX6_init 5 = .ok (.new 9, 3) := by decide +kernel
theorem dX6_init_8 : decode cX6_init 8 = .ok (.dup, 1) := by decide +kernel
theorem dX6_init_9 : decode cX6_init 9 = .ok (.invokespecial 11, 3) := by decide +kernel
theorem dX6_init_12 : decode cX6_init 12 = .ok (.putfield 12, 3) := by decide +kernel
theorem dX6_init_15 : decode cX6_init 15 = .ok (.aload_n 0, 1) := by decide +kernel
theorem dX6_init_16 : decode cX6_init 16 = .ok (.bipush 80, 2) := by decide +kernel
theorem dX6_init_18 : decode cX6_init 18 = .ok (.newarray .int, 2) := by decide +kernel
theorem dX6_init_20 : decode cX6_init 20 = .ok (.putfield 18, 3) := by decide +kernel
theorem dX6_init_23 : decode cX6_init 23 = .ok (.aload_n 0, 1) := by decide +kernel
theorem dX6_init_24 : decode cX6_init 24 = .ok (.bipush 80, 2) := by decide +kernel
theorem dX6_init_26 : decode cX6_init 26 = .ok (.newarray .int, 2) := by decide +kernel
theorem dX6_init_28 : decode cX6_init 28 = .ok (.putfield 22, 3) := by decide +kernel
theorem dX6_init_31 : decode cX6_init 31 = .ok (.aload_n 0, 1) := by decide +kernel
theorem dX6_init_32 : decode cX6_init 32 = .ok (.bipush 80, 2) := by decide +kernel
theorem dX6_init_34 : decode cX6_init 34 = .ok (.newarray .int, 2) := by decide +kernel
theorem dX6_init_36 : decode cX6_init 36 = .ok (.putfield 25, 3) := by decide +kernel
theorem dX6_init_39 : decode cX6_init 39 = .ok (.aload_n 0, 1) := by decide +kernel
theorem dX6_init_40 : decode cX6_init 40 = .ok (.bipush 80, 2) := by decide +kernel
theorem dX6_init_42 : decode cX6_init 42 = .ok (.newarray .int, 2) := by decide +kernel
theorem dX6_init_44 : decode cX6_init 44 = .ok (.putfield 28, 3) := by decide +kernel
theorem dX6_init_47 : decode cX6_init 47 = .ok (.aload_n 0, 1) := by decide +kernel
theorem dX6_init_48 : decode cX6_init 48 = .ok (.bipush 80, 2) := by decide +kernel
theorem dX6_init_50 : decode cX6_init 50 = .ok (.newarray .int, 2) := by decide +kernel
theorem dX6_init_52 : decode cX6_init 52 = .ok (.putfield 31, 3) := by decide +kernel
theorem dX6_init_55 : decode cX6_init 55 = .ok (.aload_n 0, 1) := by decide +kernel
theorem dX6_init_56 : decode cX6_init 56 = .ok (.bipush 80, 2) := by decide +kernel
theorem dX6_init_58 : decode cX6_init 58 = .ok (.newarray .int, 2) := by decide +kernel
theorem dX6_init_60 : decode cX6_init 60 = .ok (.putfield 34, 3) := by decide +kernel
theorem dX6_init_63 : decode cX6_init 63 = .ok (.aload_n 0, 1) := by decide +kernel
theorem dX6_init_64 : decode cX6_init 64 = .ok (.bipush 80, 2) := by decide +kernel
theorem dX6_init_66 : decode cX6_init 66 = .ok (.newarray .int, 2) := by decide +kernel
theorem dX6_init_68 : decode cX6_init 68 = .ok (.putfield 37, 3) := by decide +kernel
theorem dX6_init_71 : decode cX6_init 71 = .ok (.aload_n 0, 1) := by decide +kernel
theorem dX6_init_72 : decode cX6_init 72 = .ok (.bipush 10, 2) := by decide +kernel
theorem dX6_init_74 : decode cX6_init 74 = .ok (.putfield 40, 3) := by decide +kernel
theorem dX6_init_77 : decode cX6_init 77 = .ok (.return_, 1) := by decide +kernel
theorem dX6_copyFrom_0 : decode cX6_copyFrom 0 = .ok (.aload_n 1, 1) := by decide +kernel
theorem dX6_copyFrom_1 : decode cX6_copyFrom 1 = .ok (.getfield 18, 3) := by decide +kernel
theorem dX6_copyFrom_4 : decode cX6_copyFrom 4 = .ok (.aload_n 0, 1) := by decide +kernel
theorem dX6_copyFrom_5 : decode cX6_copyFrom 5 = .ok (.getfield 18, 3) := by decide +kernel
theorem dX6_copyFrom_8 : decode cX6_copyFrom 8 = .ok (.invokestatic 44, 3) := by decide +kernel
theorem dX6_copyFrom_11 : decode cX6_copyFrom 11 = .ok (.aload_n 1, 1) := by decide +kernel
theorem dX6_copyFrom_12 : decode cX6_copyFrom 12 = .ok (.getfield 22, 3) := by decide +kernel
theorem dX6_copyFrom_15 : decode cX6_copyFrom 15 = .ok (.aload_n 0, 1) := by decide +kernel
theorem dX6_copyFrom_16 : decode cX6_copyFrom 16 = .ok (.getfield 22, 3) := by decide +kernel
theorem dX6_copyFrom_19 : decode cX6_copyFrom 19 = .ok (.invokestatic 44, 3) := by decide +kernel
theorem dX6_copyFrom_22 : decode cX6_copyFrom 22 = .ok (.aload_n 1, 1) := by decide +kernel
theorem dX6_copyFrom_23 : decode cX6_copyFrom 23 = .ok (.getfield 25, 3) := by decide +kernel
theorem dX6_copyFrom_26 : decode cX6_copyFrom 26 = .ok (.aload_n 0, 1) := by decide +kernel
theorem dX6_copyFrom_27 : decode cX6_copyFrom 27 = .ok (.getfield 25, 3) := by decide +kernel
theorem dX6_copyFrom_30 : decode cX6_copyFrom 30 = .ok (.invokestatic 44, 3) := by decide +kernel
theorem dX6_copyFrom_33 : decode cX6_copyFrom 33 = .ok (.aload_n 1, 1) := by decide +kernel
theorem dX6_copyFrom_34 : decode cX6_copyFrom 34 = .ok (.getfield 28, 3) := by decide +kernel
theorem dX6_copyFrom_37 : decode cX6_copyFrom 37 = .ok (.aload_n 0, 1) := by decide +kernel
theorem dX6_copyFrom_38 : decode cX6_copyFrom 38 = .ok (.getfield 28, 3) := by decide +kernel
theorem dX6_copyFrom_41 : decode cX6_copyFrom 41 = .ok (.invokestatic 44, 3) := by decide +kernel
theorem dX6_copyFrom_44 : decode cX6_copyFrom 44 = .ok (.aload_n 1, 1) := by decide +kernel
theorem dX6_copyFrom_45 : decode cX6_copyFrom 45 = .ok (.getfield 31, 3) := by decide +kernel
theorem dX6_copyFrom_48 : decode cX6_copyFrom 48 = .ok (.aload_n 0, 1) := by decide +kernel
theorem dX6_copyFrom_49 : decode cX6_copyFrom 49 = .ok (.getfield 31, 3) := by decide +kernel
theorem dX6_copyFrom_52 : decode cX6_copyFrom 52 = .ok (.invokestatic 44, 3) := by decide +kernel
theorem dX6_copyFrom_55 : decode cX6_copyFrom 55 = .ok (.aload_n 1, 1) := by decide +kernel
theorem dX6_copyFrom_56 : decode cX6_copyFrom 56 = .ok (.getfield 34, 3) := by decide +kernel
theorem dX6_copyFrom_59 : decode cX6_copyFrom 59 = .ok (.aload_n 0, 1) := by decide +kernel
theorem dX6_copyFrom_60 : decode cX6_copyFrom 60 = .ok (.getfield 34, 3) := by decide +kernel
theorem dX6_copyFrom_63 : decode cX6_copyFrom 63 = .ok (.invokestatic 44, 3) := by decide +kernel
theorem dX6_copyFrom_66 : decode cX6_copyFrom 66 = .ok (.aload_n 1, 1) := by decide +kernel
theorem dX6_copyFrom_67 : decode cX6_copyFrom 67 = .ok (.getfield 37, 3) := by decide +kernel
theorem dX6_copyFrom_70 : decode cX6_copyFrom 70 = .ok (.aload_n 0, 1) := by decide +kernel
theorem dX6_copyFrom_71 : decode cX6_copyFrom 71 = .ok (.getfield 37, 3) := by decide +kernel
theorem dX6_copyFrom_74 : decode cX6_copyFrom 74 = .ok (.invokestatic 44, 3) := by decide +kernel
theorem dX6_copyFrom_77 : decode cX6_copyFrom 77 = .ok (.aload_n 0, 1) := by decide +kernel
theorem dX6_copyFrom_78 : decode cX6_copyFrom 78 = .ok (.aload_n 1, 1) := by decide +kernel
theorem dX6_copyFrom_79 : decode cX6_copyFrom 79 = .ok (.getfield 48, 3) := by decide +kernel
theorem dX6_copyFrom_82 : decode cX6_copyFrom 82 = .ok (.putfield 48, 3) := by decide +kernel
theorem dX6_copyFrom_85 : decode cX6_copyFrom 85 = .ok (.aload_n 0, 1) := by decide +kernel
theorem dX6_copyFrom_86 : decode cX6_copyFrom 86 = .ok (.aload_n 1, 1) := by decide +kernel
theorem dX6_copyFrom_87 : decode cX6_copyFrom 87 = .ok (.getfield 51, 3) := by decide +kernel
theorem dX6_copyFrom_90 : decode cX6_copyFrom 90 = .ok (.putfield 51, 3) := by decide +kernel
theorem dX6_copyFrom_93 : decode cX6_copyFrom 93 = .ok (.aload_n 0, 1) := by decide +kernel
theorem dX6_copyFrom_94 : decode cX6_copyFrom 94 = .ok (.aload_n 1, 1) := by decide +kernel
theorem dX6_copyFrom_95 : decode cX6_copyFrom 95 = .ok (.getfield 54, 3) := by decide +kernel
theorem dX6_copyFrom_98 : decode cX6_copyFrom 98 = .ok (.putfield 54, 3) := by decide +kernel
theorem dX6_copyFrom_101 : decode cX6_copyFrom 101 = .ok (.aload_n 0, 1) := by decide +kernel
theorem dX6_copyFrom_102 : decode cX6_copyFrom 102 = .ok (.aload_n 1, 1) := by decide +kernel
theorem dX6_copyFrom_103 : decode cX6_copyFrom 103 = .ok (.getfield 40, 3) := by decide +kernel
theorem dX6_copyFrom_106 : decode cX6_copyFrom 106 = .ok (.putfield 40, 3) := by decide +kernel
theorem dX6_copyFrom_109 : decode cX6_copyFrom 109 = .ok (.return_, 1) := by decide +kernel
theorem dX6_add_0 : decode cX6_add 0 = .ok (.aload_n 0, 1) := by decide +kernel
theorem dX6_add_1 : decode cX6_add 1 = .ok (.getfield 18, 3) := by decide +kernel
theorem dX6_add_4 : decode cX6_add 4 = .ok (.aload_n 0, 1) := by decide +kernel
theorem dX6_add_5 : decode cX6_add 5 = .ok (.getfield 48, 3) := by decide +kernel
theorem dX6_add_8 : decode cX6_add 8 = .ok (.iload_n 1, 1) := by decide +kernel
theorem dX6_add_9 : decode cX6_add 9 = .ok (.iastore, 1) := by decide +kernel
theorem dX6_add_10 : decode cX6_add 10 = .ok (.aload_n 0, 1) := by decide +kernel
theorem dX6_add_11 : decode cX6_add 11 = .ok (.getfield 22, 3) := by decide +kernel
theorem dX6_add_14 : decode cX6_add 14 = .ok (.aload_n 0, 1) := by decide +kernel
theorem dX6_add_15 : decode cX6_add 15 = .ok (.getfield 48, 3) := by decide +kernel
theorem dX6_add_18 : decode cX6_add 18 = .ok (.iload_n 2, 1) := by decide +kernel
theorem dX6_add_19 : decode cX6_add 19 = .ok (.iastore, 1) := by decide +kernel
theorem dX6_add_20 : decode cX6_add 20 = .ok (.aload_n 0, 1) := by decide +kernel
theorem dX6_add_21 : decode cX6_add 21 = .ok (.getfield 25, 3) := by decide +kernel
theorem dX6_add_24 : decode cX6_add 24 = .ok (.aload_n 0, 1) := by decide +kernel
theorem dX6_add_25 : decode cX6_add 25 = .ok (.getfield 48, 3) := by decide +kernel
theorem dX6_add_28 : decode cX6_add 28 = .ok (.iload_n 3, 1) := by decide +kernel
theorem dX6_add_29 : decode cX6_add 29 = .ok (.iastore, 1) := by decide +kernel
theorem dX6_add_30 : decode cX6_add 30 = .ok (.aload_n 0, 1) := by decide +kernel
theorem dX6_add_31 : decode cX6_add 31 = .ok (.getfield 28, 3) := by decide +kernel
theorem dX6_add_34 : decode cX6_add 34 = .ok (.aload_n 0, 1) := by decide +kernel
theorem dX6_add_35 : decode cX6_add 35 = .ok (.getfield 48, 3) := by decide +kernel
theorem dX6_add_38 : decode cX6_add 38 = .ok (.bipush (-9), 2) := by decide +kernel
theorem dX6_add_40 : decode cX6_add 40 = .ok (.iastore, 1) := by decide +kernel
theorem dX6_add_41 : decode cX6_add 41 = .ok (.aload_n 0, 1) := by decide +kernel
theorem dX6_add_42 : decode cX6_add 42 = .ok (.getfield 31, 3) := by decide +kernel
theorem dX6_add_45 : decode cX6_add 45 = .ok (.aload_n 0, 1) := by decide +kernel
theorem dX6_add_46 : decode cX6_add 46 = .ok (.getfield 48, 3) := by decide +kernel
theorem dX6_add_49 : decode cX6_add 49 = .ok (.iconst 0, 1) := by decide +kernel
theorem dX6_add_50 : decode cX6_add 50 = .ok (.iastore, 1) := by decide +kernel
theorem dX6_add_51 : decode cX6_add 51 = .ok (.aload_n 0, 1) := by decide +kernel
theorem dX6_add_52 : decode cX6_add 52 = .ok (.getfield 34, 3) := by decide +kernel
theorem dX6_add_55 : decode cX6_add 55 = .ok (.aload_n 0, 1) := by decide +kernel
theorem dX6_add_56 : decode cX6_add 56 = .ok (.getfield 48, 3) := by decide +kernel
theorem dX6_add_59 : decode cX6_add 59 = .ok (.bipush (-9), 2) := by decide +kernel
theorem dX6_add_61 : decode cX6_add 61 = .ok (.iastore, 1) := by decide +kernel
theorem dX6_add_62 : decode cX6_add 62 = .ok (.aload_n 0, 1) := by decide +kernel
theorem dX6_add_63 : decode cX6_add 63 = .ok (.getfield 37, 3) := by decide +kernel
theorem dX6_add_66 : decode cX6_add 66 = .ok (.aload_n 0, 1) := by decide +kernel
theorem dX6_add_67 : decode cX6_add 67 = .ok (.getfield 48, 3) := by decide +kernel
theorem dX6_add_70 : decode cX6_add 70 = .ok (.bipush (-9), 2) := by decide +kernel
theorem dX6_add_72 : decode cX6_add 72 = .ok (.iastore, 1) := by decide +kernel
theorem dX6_add_73 : decode cX6_add 73 = .ok (.aload_n 0, 1) := by decide +kernel
theorem dX6_add_74 : decode cX6_add 74 = .ok (.dup, 1) := by decide +kernel
theorem dX6_add_75 : decode cX6_add 75 = .ok (.getfield 48, 3) := by decide +kernel
theorem dX6_add_78 : decode cX6_add 78 = .ok (.iconst 1, 1) := by decide +kernel
theorem dX6_add_79 : decode cX6_add 79 = .ok (.iadd, 1) := by decide +kernel
theorem dX6_add_80 : decode cX6_add 80 = .ok (.putfield 48, 3) := by decide +kernel
theorem dX6_add_83 : decode cX6_add 83 = .ok (.return_, 1) := by decide +kernel
theorem dX6_hanging_0 : decode cX6_hanging 0 = .ok (.aload_n 0, 1) := by decide +kernel
theorem dX6_hanging_1 : decode cX6_hanging 1 = .ok (.getfield 51, 3) := by decide +kernel
theorem dX6_hanging_4 : decode cX6_hanging 4 = .ok (.aload_n 0, 1) := by decide +kernel
theorem dX6_hanging_5 : decode cX6_hanging 5 = .ok (.getfield 54, 3) := by decide +kernel
theorem dX6_hanging_8 : decode cX6_hanging 8 = .ok (.isub, 1) := by decide +kernel
theorem dX6_hanging_9 : decode cX6_hanging 9 = .ok (.ireturn, 1) := by decide +kernel
theorem dX6_stateOf_0 : decode cX6_stateOf 0 = .ok (.aload_n 0, 1) := by decide +kernel
theorem dX6_stateOf_1 : decode cX6_stateOf 1 = .ok (.getfield 37, 3) := by decide +kernel
theorem dX6_stateOf_4 : decode cX6_stateOf 4 = .ok (.iload_n 1, 1) := by decide +kernel
theorem dX6_stateOf_5 : decode cX6_stateOf 5 = .ok (.iaload, 1) := by decide +kernel
theorem dX6_stateOf_6 : decode cX6_stateOf 6 = .ok (.bipush (-9), 2) := by decide +kernel
theorem dX6_stateOf_8 : decode cX6_stateOf 8 = .ok (.if_icmp .eq 5, 3) := by decide +kernel
theorem dX6_stateOf_11 : decode cX6_stateOf 11 = .ok (.iconst 3, 1) := by decide +kernel
theorem dX6_stateOf_12 : decode cX6_stateOf 12 = .ok (.ireturn, 1) := by decide +kernel
theorem dX6_stateOf_13 : decode cX6_stateOf 13 = .ok (.iload_n 1, 1) := by decide +kernel
theorem dX6_stateOf_14 : decode cX6_stateOf 14 = .ok (.aload_n 0, 1) := by decide +kernel
theorem dX6_stateOf_15 : decode cX6_stateOf 15 = .ok (.getfield 54, 3) := by decide +kernel
theorem dX6_stateOf_18 : decode cX6_stateOf 18 = .ok (.if_icmp .ge 5, 3) := by decide +kernel
theorem dX6_stateOf_21 : decode cX6_stateOf 21 = .ok (.iconst 2, 1) := by decide +kernel
theorem dX6_stateOf_22 : decode cX6_stateOf 22 = .ok (.ireturn, 1) := by decide +kernel
theorem dX6_stateOf_23 : decode cX6_stateOf 23 = .ok (.iload_n 1, 1) := by decide +kernel
theorem dX6_stateOf_24 : decode cX6_stateOf 24 = .ok (.aload_n 0, 1) := by decide +kernel
theorem dX6_stateOf_25 : decode cX6_stateOf 25 = .ok (.getfield 51, 3) := by decide +kernel
theorem dX6_stateOf_28 : decode cX6_stateOf 28 = .ok (.if_icmp .ge 7, 3) := by decide +kernel
theorem dX6_stateOf_31 : decode cX6_stateOf 31 = .ok (.iconst 1, 1) := by decide +kernel
theorem dX6_stateOf_32 : decode cX6_stateOf 32 = .ok (.goto 4, 3) := by decide +kernel
theorem dX6_stateOf_35 : decode cX6_stateOf 35 = .ok (.iconst 0, 1) := by decide +kernel
theorem dX6_stateOf_36 : decode cX6_stateOf 36 = .ok (.ireturn, 1) := by decide +kernel
theorem dX6_hangWet_0 : decode cX6_hangWet 0 = .ok (.aload_n 0, 1) := by decide +kernel
theorem dX6_hangWet_1 : decode cX6_hangWet 1 = .ok (.getfield 51, 3) := by decide +kernel
theorem dX6_hangWet_4 : decode cX6_hangWet 4 = .ok (.aload_n 0, 1) := by decide +kernel
theorem dX6_hangWet_5 : decode cX6_hangWet 5 = .ok (.getfield 48, 3) := by decide +kernel
theorem dX6_hangWet_8 : decode cX6_hangWet 8 = .ok (.if_icmp .ge 37, 3) := by decide +kernel
theorem dX6_hangWet_11 : decode cX6_hangWet 11 = .ok (.aload_n 0, 1) := by decide +kernel
theorem dX6_hangWet_12 : decode cX6_hangWet 12 = .ok (.invokevirtual 57, 3) := by decide +kernel
theorem dX6_hangWet_15 : decode cX6_hangWet 15 = .ok (.aload_n 0, 1) := by decide +kernel
theorem dX6_hangWet_16 : decode cX6_hangWet 16 = .ok (.getfield 40, 3) := by decide +kernel
theorem dX6_hangWet_19 : decode cX6_hangWet 19 = .ok (.if_icmp .ge 26, 3) := by decide +kernel
theorem dX6_hangWet_22 : decode cX6_hangWet 22 = .ok (.aload_n 0, 1) := by decide +kernel
theorem dX6_hangWet_23 : decode cX6_hangWet 23 = .ok (.getfield 28, 3) := by decide +kernel
theorem dX6_hangWet_26 : decode cX6_hangWet 26 = .ok (.aload_n 0, 1) := by decide +kernel
theorem dX6_hangWet_27 : decode cX6_hangWet 27 = .ok (.getfield 51, 3) := by decide +kernel
theorem dX6_hangWet_30 : decode cX6_hangWet 30 = .ok (.iload_n 1, 1) := by decide +kernel
theorem dX6_hangWet_31 : decode cX6_hangWet 31 = .ok (.iastore, 1) := by decide +kernel
theorem dX6_hangWet_32 : decode cX6_hangWet 32 = .ok (.aload_n 0, 1) := by decide +kernel
theorem dX6_hangWet_33 : decode cX6_hangWet 33 = .ok (.dup, 1) := by decide +kernel
theorem dX6_hangWet_34 : decode cX6_hangWet 34 = .ok (.getfield 51, 3) := by decide +kernel
theorem dX6_hangWet_37 : decode cX6_hangWet 37 = .ok (.iconst 1, 1) := by decide +kernel
theorem dX6_hangWet_38 : decode cX6_hangWet 38 = .ok (.iadd, 1) := by decide +kernel
theorem dX6_hangWet_39 : decode cX6_hangWet 39 = .ok (.putfield 51, 3) := by decide +kernel
theorem dX6_hangWet_42 : decode cX6_hangWet 42 = .ok (.goto (-42), 3) := by decide +kernel
theorem dX6_hangWet_45 : decode cX6_hangWet 45 = .ok (.return_, 1) := by decide +kernel
theorem dX6_dryHanging_0 : decode cX6_dryHanging 0 = .ok (.aload_n 0, 1) := by decide +kernel
theorem dX6_dryHanging_1 : decode cX6_dryHanging 1 = .ok (.getfield 54, 3) := by decide +kernel
theorem dX6_dryHanging_4 : decode cX6_dryHanging 4 = .ok (.istore_n 3, 1) := by decide +kernel
theorem dX6_dryHanging_5 : decode cX6_dryHanging 5 = .ok (.iload_n 3, 1) := by decide +kernel
theorem dX6_dryHanging_6 : decode cX6_dryHanging 6 = .ok (.aload_n 0, 1) := by decide +kernel
theorem dX6_dryHanging_7 : decode cX6_dryHanging 7 = .ok (.getfield 51, 3) := by decide +kernel
theorem dX6_dryHanging_10 : decode cX6_dryHanging 10 = .ok (.if_icmp .ge 47, 3) := by decide +kernel
theorem dX6_dryHanging_13 : decode cX6_dryHanging 13 = .ok (.aload_n 0, 1) := by decide +kernel
theorem dX6_dryHanging_14 : decode cX6_dryHanging 14 = .ok (.getfield 31, 3) := by decide +kernel
theorem dX6_dryHanging_17 : decode cX6_dryHanging 17 = .ok (.iload_n 3, 1) := by decide +kernel
theorem dX6_dryHanging_18 : decode cX6_dryHanging 18 = .ok (.dup2, 1) := by decide +kernel
theorem dX6_dryHanging_19 : decode cX6_dryHanging 19 = .ok (.iaload, 1) := by decide +kernel
theorem dX6_dryHanging_20 : decode cX6_dryHanging 20 = .ok (.iload_n 1, 1) := by decide +kernel
theorem dX6_dryHanging_21 : decode cX6_dryHanging 21 = .ok (.iadd, 1) := by decide +kernel
theorem dX6_dryHanging_22 : decode cX6_dryHanging 22 = .ok (.iastore, 1) := by decide +kernel
theorem dX6_dryHanging_23 : decode cX6_dryHanging 23 = .ok (.aload_n 0, 1) := by decide +kernel
theorem dX6_dryHanging_24 : decode cX6_dryHanging 24 = .ok (.getfield 31, 3) := by decide +kernel
theorem dX6_dryHanging_27 : decode cX6_dryHanging 27 = .ok (.iload_n 3, 1) := by decide +kernel
theorem dX6_dryHanging_28 : decode cX6_dryHanging 28 = .ok (.iaload, 1) := by decide +kernel
theorem dX6_dryHanging_29 : decode cX6_dryHanging 29 = .ok (.bipush 40, 2) := by decide +kernel
theorem dX6_dryHanging_31 : decode cX6_dryHanging 31 = .ok (.if_icmp .lt 20, 3) := by decide +kernel
theorem dX6_dryHanging_34 : decode cX6_dryHanging 34 = .ok (.aload_n 0, 1) := by decide +kernel
theorem dX6_dryHanging_35 : decode cX6_dryHanging 35 = .ok (.getfield 34, 3) := by decide +kernel
theorem dX6_dryHanging_38 : decode cX6_dryHanging 38 = .ok (.iload_n 3, 1) := by decide +kernel
theorem dX6_dryHanging_39 : decode cX6_dryHanging 39 = .ok (.iload_n 2, 1) := by decide +kernel
theorem dX6_dryHanging_40 : decode cX6_dryHanging 40 = .ok (.iastore, 1) := by decide +kernel
theorem dX6_dryHanging_41 : decode cX6_dryHanging 41 = .ok (.aload_n 0, 1) := by decide +kernel
theorem dX6_dryHanging_42 : decode cX6_dryHanging 42 = .ok (.dup, 1) := by decide +kernel
theorem dX6_dryHanging_43 : decode cX6_dryHanging 43 = .ok (.getfield 54, 3) := by decide +kernel
theorem dX6_dryHanging_46 : decode cX6_dryHanging 46 = .ok (.iconst 1, 1) := by decide +kernel
theorem dX6_dryHanging_47 : decode cX6_dryHanging 47 = .ok (.iadd, 1) := by decide +kernel
theorem dX6_dryHanging_48 : decode cX6_dryHanging 48 = .ok (.putfield 54, 3) := by decide +kernel
theorem dX6_dryHanging_51 : decode cX6_dryHanging 51 = .ok (.iinc 3 1, 3) := by decide +kernel
theorem dX6_dryHanging_54 : decode cX6_dryHanging 54 = .ok (.goto (-49), 3) := by decide +kernel
theorem dX6_dryHanging_57 : decode cX6_dryHanging 57 = .ok (.return_, 1) := by decide +kernel
theorem dX6_finish_0 : decode cX6_finish 0 = .ok (.aload_n 0, 1) := by decide +kernel
theorem dX6_finish_1 : decode cX6_finish 1 = .ok (.getfield 28, 3) := by decide +kernel
theorem dX6_finish_4 : decode cX6_finish 4 = .ok (.iload_n 1, 1) := by decide +kernel
theorem dX6_finish_5 : decode cX6_finish 5 = .ok (.iaload, 1) := by decide +kernel
theorem dX6_finish_6 : decode cX6_finish 6 = .ok (.aload_n 0, 1) := by decide +kernel
theorem dX6_finish_7 : decode cX6_finish 7 = .ok (.getfield 25, 3) := by decide +kernel
theorem dX6_finish_10 : decode cX6_finish 10 = .ok (.iload_n 1, 1) := by decide +kernel
theorem dX6_finish_11 : decode cX6_finish 11 = .ok (.iaload, 1) := by decide +kernel
theorem dX6_finish_12 : decode cX6_finish 12 = .ok (.isub, 1) := by decide +kernel
theorem dX6_finish_13 : decode cX6_finish 13 = .ok (.bipush 24, 2) := by decide +kernel
theorem dX6_finish_15 : decode cX6_finish 15 = .ok (.idiv, 1) := by decide +kernel
theorem dX6_finish_16 : decode cX6_finish 16 = .ok (.istore_n 2, 1) := by decide +kernel
theorem dX6_finish_17 : decode cX6_finish 17 = .ok (.aload_n 0, 1) := by decide +kernel
theorem dX6_finish_18 : decode cX6_finish 18 = .ok (.getfield 37, 3) := by decide +kernel
theorem dX6_finish_21 : decode cX6_finish 21 = .ok (.iload_n 1, 1) := by decide +kernel
theorem dX6_finish_22 : decode cX6_finish 22 = .ok (.iconst 0, 1) := by decide +kernel
theorem dX6_finish_23 : decode cX6_finish 23 = .ok (.bipush 58, 2) := by decide +kernel
theorem dX6_finish_25 : decode cX6_finish 25 = .ok (.iload_n 2, 1) := by decide +kernel
theorem dX6_finish_26 : decode cX6_finish 26 = .ok (.isub, 1) := by decide +kernel
theorem dX6_finish_27 : decode cX6_finish 27 = .ok (.invokestatic 61, 3) := by decide +kernel
theorem dX6_finish_30 : decode cX6_finish 30 = .ok (.iastore, 1) := by decide +kernel
theorem dX6_finish_31 : decode cX6_finish 31 = .ok (.aload_n 0, 1) := by decide +kernel
theorem dX6_finish_32 : decode cX6_finish 32 = .ok (.getfield 37, 3) := by decide +kernel
theorem dX6_finish_35 : decode cX6_finish 35 = .ok (.iload_n 1, 1) := by decide +kernel
theorem dX6_finish_36 : decode cX6_finish 36 = .ok (.iaload, 1) := by decide +kernel
theorem dX6_finish_37 : decode cX6_finish 37 = .ok (.ireturn, 1) := by decide +kernel
theorem dX7_init_0 : decode cX7_init 0 = .ok (.aload_n 0, 1) := by decide +kernel
theorem dX7_init_1 : decode cX7_init 1 = .ok (.invokespecial 3, 3) := by decide +kernel
theorem dX7_init_4 : decode cX7_init 4 = .ok (.aload_n 0, 1) := by decide +kernel
theorem dX7_init_5 : decode cX7_init 5 = .ok (.bipush 9, 2) := by decide +kernel
theorem dX7_init_7 : decode cX7_init 7 = .ok (.newarray .int, 2) := by decide +kernel
theorem dX7_init_9 : decode cX7_init 9 = .ok (.putfield 9, 3) := by decide +kernel
theorem dX7_init_12 : decode cX7_init 12 = .ok (.aload_n 0, 1) := by decide +kernel
theorem dX7_init_13 : decode cX7_init 13 = .ok (.bipush 9, 2) := by decide +kernel
theorem dX7_init_15 : decode cX7_init 15 = .ok (.newarray .int, 2) := by decide +kernel
theorem dX7_init_17 : decode cX7_init 17 = .ok (.putfield 15, 3) := by decide +kernel
theorem dX7_init_20 : decode cX7_init 20 = .ok (.aload_n 0, 1) := by decide +kernel
theorem dX7_init_21 : decode cX7_init 21 = .ok (.bipush 9, 2) := by decide +kernel
theorem dX7_init_23 : decode cX7_init 23 = .ok (.newarray .int, 2) := by decide +kernel
theorem dX7_init_25 : decode cX7_init 25 = .ok (.putfield 18, 3) := by decide +kernel
theorem dX7_init_28 : decode cX7_init 28 = .ok (.aload_n 0, 1) := by decide +kernel
theorem dX7_init_29 : decode cX7_init 29 = .ok (.bipush 9, 2) := by decide +kernel
theorem dX7_init_31 : decode cX7_init 31 = .ok (.newarray .int, 2) := by decide +kernel
theorem dX7_init_33 : decode cX7_init 33 = .ok (.putfield 21, 3) := by decide +kernel
theorem dX7_init_36 : decode cX7_init 36 = .ok (.aload_n 0, 1) := by decide +kernel
theorem dX7_init_37 : decode cX7_init 37 = .ok (.getfield 9, 3) := by decide +kernel
theorem dX7_init_40 : decode cX7_init 40 = .ok (.iconst 5, 1) := by decide +kernel
theorem dX7_init_41 : decode cX7_init 41 = .ok (.invokestatic 24, 3) := by decide +kernel
theorem dX7_init_44 : decode cX7_init 44 = .ok (.aload_n 0, 1) := by decide +kernel
theorem dX7_init_45 : decode cX7_init 45 = .ok (.getfield 15, 3) := by decide +kernel
theorem dX7_init_48 : decode cX7_init 48 = .ok (.bipush 10, 2) := by decide +kernel
theorem dX7_init_50 : decode cX7_init 50 = .ok (.invokestatic 24, 3) := by decide +kernel
theorem dX7_init_53 : decode cX7_init 53 = .ok (.aload_n 0, 1) := by decide +kernel
theorem dX7_init_54 : decode cX7_init 54 = .ok (.getfield 18, 3) := by decide +kernel
theorem dX7_init_57 : decode cX7_init 57 = .ok (.bipush 8, 2) := by decide +kernel
theorem dX7_init_59 : decode cX7_init 59 = .ok (.invokestatic 24, 3) := by decide +kernel
theorem dX7_init_62 : decode cX7_init 62 = .ok (.return_, 1) := by decide +kernel
theorem dX8_init_0 : decode cX8_init 0 = .ok (.aload_n 0, 1) := by decide +kernel
theorem dX8_init_1 : decode cX8_init 1 = .ok (.invokespecial 3, 3) := by decide +kernel
theorem dX8_init_4 : decode cX8_init 4 = .ok (.aload_n 0, 1) := by decide +kernel
theorem dX8_init_5 : decode cX8_init 5 = .ok (.iconst 3, 1) := by decide +kernel
theorem dX8_init_6 : decode cX8_init 6 = .ok (.newarray .int, 2) := by decide +kernel
theorem dX8_init_8 : decode cX8_init 8 = .ok (.putfield 9, 3) := by decide +kernel
theorem dX8_init_11 : decode cX8_init 11 = .ok (.aload_n 0, 1) := by decide +kernel
theorem dX8_init_12 : decode cX8_init 12 = .ok (.iconst 3, 1) := by decide +kernel
theorem dX8_init_13 : decode cX8_init 13 = .ok (.newarray .int, 2) := by decide +kernel
theorem dX8_init_15 : decode cX8_init 15 = .ok (.putfield 15, 3) := by decide +kernel
theorem dX8_init_18 : decode cX8_init 18 = .ok (.aload_n 0, 1) := by decide +kernel
theorem dX8_init_19 : decode cX8_init 19 = .ok (.iconst 3, 1) := by decide +kernel
theorem dX8_init_20 : decode cX8_init 20 = .ok (.newarray .int, 2) := by decide +kernel
theorem dX8_init_22 : decode cX8_init 22 = .ok (.putfield 18, 3) := by decide +kernel
theorem dX8_init_25 : decode cX8_init 25 = .ok (.aload_n 0, 1) := by decide +kernel
theorem dX8_init_26 : decode cX8_init 26 = .ok (.iconst 3, 1) := by decide +kernel
theorem dX8_init_27 : decode cX8_init 27 = .ok (.newarray .int, 2) := by decide +kernel
theorem dX8_init_29 : decode cX8_init 29 = .ok (.putfield 21, 3) := by decide +kernel
theorem dX8_init_32 : decode cX8_init 32 = .ok (.aload_n 0, 1) := by decide +kernel
theorem dX8_init_33 : decode cX8_init 33 = .ok (.bipush 36, 2) := by decide +kernel
theorem dX8_init_35 : decode cX8_init 35 = .ok (.newarray .int, 2) := by decide +kernel
theorem dX8_init_37 : decode cX8_init 37 = .ok (.putfield 24, 3) := by decide +kernel
theorem dX8_init_40 : decode cX8_init 40 = .ok (.aload_n 0, 1) := by decide +kernel
theorem dX8_init_41 : decode cX8_init 41 = .ok (.aload_n 1, 1) := by decide +kernel
theorem dX8_init_42 : decode cX8_init 42 = .ok (.putfield 27, 3) := by decide +kernel
theorem dX8_init_45 : decode cX8_init 45 = .ok (.aload_n 0, 1) := by decide +kernel
theorem dX8_init_46 : decode cX8_init 46 = .ok (.aload_n 2, 1) := by decide +kernel
theorem dX8_init_47 : decode cX8_init 47 = .ok (.putfield 30, 3) := by decide +kernel
theorem dX8_init_50 : decode cX8_init 50 = .ok (.aload_n 0, 1) := by decide +kernel
theorem dX8_init_51 : decode cX8_init 51 = .ok (.aload_n 3, 1) := by decide +kernel
theorem dX8_init_52 : decode cX8_init 52 = .ok (.putfield 34, 3) := by decide +kernel
theorem dX8_init_55 : decode cX8_init 55 = .ok (.aload_n 0, 1) := by decide +kernel
theorem dX8_init_56 : decode cX8_init 56 = .ok (.getfield 9, 3) := by decide +kernel
theorem dX8_init_59 : decode cX8_init 59 = .ok (.bipush (-9), 2) := by decide +kernel
theorem dX8_init_61 : decode cX8_init 61 = .ok (.invokestatic 38, 3) := by decide +kernel
theorem dX8_init_64 : decode cX8_init 64 = .ok (.return_, 1) := by decide +kernel
theorem dX8_copyFrom_0 : decode cX8_copyFrom 0 = .ok (.aload_n 1, 1) := by decide +kernel
theorem dX8_copyFrom_1 : decode cX8_copyFrom 1 = .ok (.getfield 9, 3) := by decide +kernel
theorem dX8_copyFrom_4 : decode cX8_copyFrom 4 = .ok (.aload_n 0, 1) := by decide +kernel
theorem dX8_copyFrom_5 : decode cX8_copyFrom 5 = .ok (.getfield 9, 3) := by decide +kernel
theorem dX8_copyFrom_8 : decode cX8_copyFrom 8 = .ok (.invokestatic 44, 3) := by decide +kernel
theorem dX8_copyFrom_11 : decode cX8_copyFrom 11 = .ok (.aload_n 1, 1) := by decide +kernel
theorem dX8_copyFrom_12 : decode cX8_copyFrom 12 = .ok (.getfield 15, 3) := by decide +kernel
theorem dX8_copyFrom_15 : decode cX8_copyFrom 15 = .ok (.aload_n 0, 1) := by decide +kernel
theorem dX8_copyFrom_16 : decode cX8_copyFrom 16 = .ok (.getfield 15, 3) := by decide +kernel
theorem dX8_copyFrom_19 : decode cX8_copyFrom 19 = .ok (.invokestatic 44, 3) := by decide +kernel
theorem dX8_copyFrom_22 : decode cX8_copyFrom 22 = .ok (.aload_n 1, 1) := by decide +kernel
theorem dX8_copyFrom_23 : decode cX8_copyFrom 23 = .ok (.getfield 18, 3) := by decide +kernel
theorem dX8_copyFrom_26 : decode cX8_copyFrom 26 = .ok (.aload_n 0, 1) := by decide +kernel
theorem dX8_copyFrom_27 : decode cX8_copyFrom 27 = .ok (.getfield 18, 3) := by decide +kernel
theorem dX8_copyFrom_30 : decode cX8_copyFrom 30 = .ok (.invokestatic 44, 3) := by decide +kernel
theorem dX8_copyFrom_33 : decode cX8_copyFrom 33 = .ok (.aload_n 1, 1) := by decide +kernel
theorem dX8_copyFrom_34 : decode cX8_copyFrom 34 = .ok (.getfield 21, 3) := by decide +kernel
theorem dX8_copyFrom_37 : decode cX8_copyFrom 37 = .ok (.aload_n 0, 1) := by decide +kernel
theorem dX8_copyFrom_38 : decode cX8_copyFrom 38 = .ok (.getfield 21, 3) := by decide +kernel
theorem dX8_copyFrom_41 : decode cX8_copyFrom 41 = .ok (.invokestatic 44, 3) := by decide +kernel
theorem dX8_copyFrom_44 : decode cX8_copyFrom 44 = .ok (.aload_n 1, 1) := by decide +kernel
theorem dX8_copyFrom_45 : decode cX8_copyFrom 45 = .ok (.getfield 24, 3) := by decide +kernel
theorem dX8_copyFrom_48 : decode cX8_copyFrom 48 = .ok (.aload_n 0, 1) := by decide +kernel
theorem dX8_copyFrom_49 : decode cX8_copyFrom 49 = .ok (.getfield 24, 3) := by decide +kernel
theorem dX8_copyFrom_52 : decode cX8_copyFrom 52 = .ok (.invokestatic 44, 3) := by decide +kernel
theorem dX8_copyFrom_55 : decode cX8_copyFrom 55 = .ok (.aload_n 0, 1) := by decide +kernel
theorem dX8_copyFrom_56 : decode cX8_copyFrom 56 = .ok (.aload_n 1, 1) := by decide +kernel
theorem dX8_copyFrom_57 : decode cX8_copyFrom 57 = .ok (.getfield 48, 3) := by decide +kernel
theorem dX8_copyFrom_60 : decode cX8_copyFrom 60 = .ok (.putfield 48, 3) := by decide +kernel
theorem dX8_copyFrom_63 : decode cX8_copyFrom 63 = .ok (.return_, 1) := by decide +kernel
theorem dX8_isPairElsewhere_0 : decode cX8_isPairElsewhere 0 = .ok (.iconst 0, 1) := by decide +kernel
theorem dX8_isPairElsewhere_1 : decode cX8_isPairElsewhere 1 = .ok (.istore_n 3, 1) := by decide +kernel
theorem dX8_isPairElsewhere_2 : decode cX8_isPairElsewhere 2 = .ok (.iload_n 3, 1) := by decide +kernel
theorem dX8_isPairElsewhere_3 : decode cX8_isPairElsewhere 3 = .ok (.iconst 3, 1) := by decide +kernel
theorem dX8_isPairElsewhere_4 : decode cX8_isPairElsewhere 4 = .ok (.if_icmp .ge 26, 3) := by decide +kernel
theorem dX8_isPairElsewhere_7 : decode cX8_isPairElsewhere 7 = .ok (.iload_n 3, 1) := by decide +kernel
theorem dX8_isPairElsewhere_8 : decode cX8_isPairElsewhere 8 = .ok (.iload_n 1, 1) := by decide +kernel
theorem dX8_isPairElsewhere_9 : decode cX8_isPairElsewhere 9 = .ok (.if_icmp .eq 15, 3) := by decide +kernel
theorem dX8_isPairElsewhere_12 : decode cX8_isPairElsewhere 12 = .ok (.aload_n 0, 1) := by decide +kernel
theorem dX8_isPairElsewhere_13 : decode cX8_isPairElsewhere 13 = .ok (.getfield 9, 3) := by decide +kernel
theorem dX8_isPairElsewhere_16 : decode cX8_isPairElsewhere 16 = .ok (.iload_n 3, 1) := by decide +kernel
theorem dX8_isPairElsewhere_17 : decode cX8_isPairElsewhere 17 = .ok (.iaload, 1) := by decide +kernel
theorem dX8_isPairElsewhere_18 : decode cX8_isPairElsewhere 18 = .ok (.iload_n 2, 1) := by decide +kernel
theorem dX8_isPairElsewhere_19 : decode cX8_isPairElsewhere 19 = .ok (.if_icmp .ne 5, 3) := by decide +kernel
theorem dX8_isPairElsewhere_22 : decode cX8_isPairElsewhere 22 = .ok (.iconst 1, 1) := by decide +kernel
theorem dX8_isPairElsewhere_23 : decode cX8_isPairElsewhere 23 = .ok (.ireturn, 1) := by decide +kernel
theorem dX8_isPairElsewhere_24 : decode cX8_isPairElsewhere 24 = .ok (.iinc 3 1, 3) := by decide +kernel
theorem dX8_isPairElsewhere_27 : decode cX8_isPairElsewhere 27 = .ok (.goto (-25), 3) := by decide +kernel
theorem dX8_isPairElsewhere_30 : decode cX8_isPairElsewhere 30 = .ok (.iconst 0, 1) := by decide +kernel
theorem dX8_isPairElsewhere_31 : decode cX8_isPairElsewhere 31 = .ok (.ireturn, 1) := by decide +kernel
theorem dX8_isPairAtPost_0 : decode cX8_isPairAtPost 0 = .ok (.iconst 0, 1) := by decide +kernel
theorem dX8_isPairAtPost_1 : decode cX8_isPairAtPost 1 = .ok (.istore_n 2, 1) := by decide +kernel
theorem dX8_isPairAtPost_2 : decode cX8_isPairAtPost 2 = .ok (.iload_n 2, 1) := by decide +kernel
theorem dX8_isPairAtPost_3 : decode cX8_isPairAtPost 3 = .ok (.iconst 3, 1) := by decide +kernel
theorem dX8_isPairAtPost_4 : decode cX8_isPairAtPost 4 = .ok (.if_icmp .ge 30, 3) := by decide +kernel
theorem dX8_isPairAtPost_7 : decode cX8_isPairAtPost 7 = .ok (.aload_n 0, 1) := by decide +kernel
theorem dX8_isPairAtPost_8 : decode cX8_isPairAtPost 8 = .ok (.getfield 9, 3) := by decide +kernel
theorem dX8_isPairAtPost_11 : decode cX8_isPairAtPost 11 = .ok (.iload_n 2, 1) := by decide +kernel
theorem dX8_isPairAtPost_12 : decode cX8_isPairAtPost 12 = .ok (.iaload, 1) := by decide +kernel
theorem dX8_isPairAtPost_13 : decode cX8_isPairAtPost 13 = .ok (.iload_n 1, 1) := by decide +kernel
theorem dX8_isPairAtPost_14 : decode cX8_isPairAtPost 14 = .ok (.if_icmp .ne 14, 3) := by decide +kernel
theorem dX8_isPairAtPost_17 : decode cX8_isPairAtPost 17 = .ok (.aload_n 0, 1) := by decide +kernel
theorem dX8_isPairAtPost_18 : decode cX8_isPairAtPost 18 = .ok (.getfield 18, 3) := by decide +kernel
theorem dX8_isPairAtPost_21 : decode cX8_isPairAtPost 21 = .ok (.iload_n 2, 1) := by decide +kernel
theorem dX8_isPairAtPost_22 : decode cX8_isPairAtPost 22 = .ok (.iaload, 1) := by decide +kernel
theorem dX8_isPairAtPost_23 : decode cX8_isPairAtPost 23 = .ok (.ifCond .le 5, 3) := by decide +kernel
theorem dX8_isPairAtPost_26 : decode cX8_isPairAtPost 26 = .ok (.iconst 1, 1) := by decide +kernel
theorem dX8_isPairAtPost_27 : decode cX8_isPairAtPost 27 = .ok (.ireturn, 1) := by decide +kernel
theorem dX8_isPairAtPost_28 : decode cX8_isPairAtPost 28 = .ok (.iinc 2 1, 3) := by decide +kernel
theorem dX8_isPairAtPost_31 : decode cX8_isPairAtPost 31 = .ok (.goto (-29), 3) := by decide +kernel
theorem dX8_isPairAtPost_34 : decode cX8_isPairAtPost 34 = .ok (.iconst 0, 1) := by decide +kernel
theorem dX8_isPairAtPost_35 : decode cX8_isPairAtPost 35 = .ok (.ireturn, 1) := by decide +kernel
theorem dX8_work_0 : decode cX8_work 0 = .ok (.iload_n 1, 1) := by decide +kernel
theorem dX8_work_1 : decode cX8_work 1 = .ok (.istore_n 3, 1) := by decide +kernel
theorem dX8_work_2 : decode cX8_work 2 = .ok (.iconst 0, 1) := by decide +kernel
theorem dX8_work_3 : decode cX8_work 3 = .ok (.istore 4, 2) := by decide +kernel
theorem dX8_work_5 : decode cX8_work 5 = .ok (.iload 4, 2) := by decide +kernel
theorem dX8_work_7 : decode cX8_work 7 = .ok (.iconst 3, 1) := by decide +kernel
theorem dX8_work_8 : decode cX8_work 8 = .ok (.if_icmp .ge 62, 3) := by decide +kernel
theorem dX8_work_11 : decode cX8_work 11 = .ok (.aload_n 0, 1) := by decide +kernel
theorem dX8_work_12 : decode cX8_work 12 = .ok (.getfield 9, 3) := by decide +kernel
theorem dX8_work_15 : decode cX8_work 15 = .ok (.iload 4, 2) := by decide +kernel
theorem dX8_work_17 : decode cX8_work 17 = .ok (.iaload, 1) := by decide +kernel
theorem dX8_work_18 : decode cX8_work 18 = .ok (.bipush (-9), 2) := by decide +kernel
theorem dX8_work_20 : decode cX8_work 20 = .ok (.if_icmp .ne 6, 3) := by decide +kernel
theorem dX8_work_23 : decode cX8_work 23 = .ok (.goto 41, 3) := by decide +kernel
theorem dX8_work_26 : decode cX8_work 26 = .ok (.iload_n 3, 1) := by decide +kernel
theorem dX8_work_27 : decode cX8_work 27 = .ok (.iconst 2, 1) := by decide +kernel
theorem dX8_work_28 : decode cX8_work 28 = .ok (.if_icmp .lt 25, 3) := by decide +kernel
theorem dX8_work_31 : decode cX8_work 31 = .ok (.aload_n 0, 1) := by decide +kernel
theorem dX8_work_32 : decode cX8_work 32 = .ok (.iload 4, 2) := by decide +kernel
theorem dX8_work_34 : decode cX8_work 34 = .ok (.invokevirtual 52, 3) := by decide +kernel
theorem dX8_work_37 : decode cX8_work 37 = .ok (.ifCond .eq 16, 3) := by decide +kernel
theorem dX8_work_40 : decode cX8_work 40 = .ok (.iinc 3 (-2), 3) := by decide +kernel
theorem dX8_work_43 : decode cX8_work 43 = .ok (.aload_n 0, 1) := by decide +kernel
theorem dX8_work_44 : decode cX8_work 44 = .ok (.iload 4, 2) := by decide +kernel
theorem dX8_work_46 : decode cX8_work 46 = .ok (.iload_n 2, 1) := by decide +kernel
theorem dX8_work_47 : decode cX8_work 47 = .ok (.invokevirtual 56, 3) := by decide +kernel
theorem dX8_work_50 : decode cX8_work 50 = .ok (.goto 14, 3) := by decide +kernel
theorem dX8_work_53 : decode cX8_work 53 = .ok (.aload_n 0, 1) := by decide +kernel
theorem dX8_work_54 : decode cX8_work 54 = .ok (.getfield 21, 3) := by decide +kernel
theorem dX8_work_57 : decode cX8_work 57 = .ok (.iload 4, 2) := by decide +kernel
theorem dX8_work_59 : decode cX8_work 59 = .ok (.dup2, 1) := by decide +kernel
theorem dX8_work_60 : decode cX8_work 60 = .ok (.iaload, 1) := by decide +kernel
theorem dX8_work_61 : decode cX8_work 61 = .ok (.iconst 1, 1) := by decide +kernel
theorem dX8_work_62 : decode cX8_work 62 = .ok (.iadd, 1) := by decide +kernel
theorem dX8_work_63 : decode cX8_work 63 = .ok (.iastore, 1) := by decide +kernel
theorem dX8_work_64 : decode cX8_work 64 = .ok (.iinc 4 1, 3) := by decide +kernel
theorem dX8_work_67 : decode cX8_work 67 = .ok (.goto (-62), 3) := by decide +kernel
theorem dX8_work_70 : decode cX8_work 70 = .ok (.return_, 1) := by decide +kernel
theorem dX8_canMake_0 : decode cX8_canMake 0 = .ok (.aload_n 0, 1) := by decide +kernel
theorem dX8_canMake_1 : decode cX8_canMake 1 = .ok (.getfield 34, 3) := by decide +kernel
theorem dX8_canMake_4 : decode cX8_canMake 4 = .ok (.getfield 60, 3) := by decide +kernel
theorem dX8_canMake_7 : decode cX8_canMake 7 = .ok (.bipush 80, 2) := by decide +kernel
theorem dX8_canMake_9 : decode cX8_canMake 9 = .ok (.if_icmp .ge 35, 3) := by decide +kernel
theorem dX8_canMake_12 : decode cX8_canMake 12 = .ok (.aload_n 0, 1) := by decide +kernel
theorem dX8_canMake_13 : decode cX8_canMake 13 = .ok (.getfield 27, 3) := by decide +kernel
theorem dX8_canMake_16 : decode cX8_canMake 16 = .ok (.aload_n 0, 1) := by decide +kernel
theorem dX8_canMake_17 : decode cX8_canMake 17 = .ok (.getfield 15, 3) := by decide +kernel
theorem dX8_canMake_20 : decode cX8_canMake 20 = .ok (.iload_n 1, 1) := by decide +kernel
theorem dX8_canMake_21 : decode cX8_canMake 21 = .ok (.iaload, 1) := by decide +kernel
theorem dX8_canMake_22 : decode cX8_canMake 22 = .ok (.iaload, 1) := by decide +kernel
theorem dX8_canMake_23 : decode cX8_canMake 23 = .ok (.aload_n 0, 1) := by decide +kernel
theorem dX8_canMake_24 : decode cX8_canMake 24 = .ok (.getfield 30, 3) := by decide +kernel
theorem dX8_canMake_27 : decode cX8_canMake 27 = .ok (.getfield 65, 3) := by decide +kernel
theorem dX8_canMake_30 : decode cX8_canMake 30 = .ok (.aload_n 0, 1) := by decide +kernel
theorem dX8_canMake_31 : decode cX8_canMake 31 = .ok (.getfield 9, 3) := by decide +kernel
theorem dX8_canMake_34 : decode cX8_canMake 34 = .ok (.iload_n 1, 1) := by decide +kernel
theorem dX8_canMake_35 : decode cX8_canMake 35 = .ok (.iaload, 1) := by decide +kernel
theorem dX8_canMake_36 : decode cX8_canMake 36 = .ok (.iaload, 1) := by decide +kernel
theorem dX8_canMake_37 : decode cX8_canMake 37 = .ok (.if_icmp .lt 7, 3) := by decide +kernel
theorem dX8_canMake_40 : decode cX8_canMake 40 = .ok (.iconst 1, 1) := by decide +kernel
theorem dX8_canMake_41 : decode cX8_canMake 41 = .ok (.goto 4, 3) := by decide +kernel
theorem dX8_canMake_44 : decode cX8_canMake 44 = .ok (.iconst 0, 1) := by decide +kernel
theorem dX8_canMake_45 : decode cX8_canMake 45 = .ok (.ireturn, 1) := by decide +kernel
theorem dX8_makeSheets_0 : decode cX8_makeSheets 0 = .ok (.iconst 0, 1) := by decide +kernel
theorem dX8_makeSheets_1 : decode cX8_makeSheets 1 = .ok (.istore_n 3, 1) := by decide +kernel
theorem dX8_makeSheets_2 : decode cX8_makeSheets 2 = .ok (.iload_n 3, 1) := by decide +kernel
theorem dX8_makeSheets_3 : decode cX8_makeSheets 3 = .ok (.bipush 20, 2) := by decide +kernel
theorem dX8_makeSheets_5 : decode cX8_makeSheets 5 = .ok (.if_icmp .ge 39, 3) := by decide +kernel
theorem dX8_makeSheets_8 : decode cX8_makeSheets 8 = .ok (.aload_n 0, 1) := by decide +kernel
theorem dX8_makeSheets_9 : decode cX8_makeSheets 9 = .ok (.iload_n 1, 1) := by decide +kernel
theorem dX8_makeSheets_10 : decode cX8_makeSheets 10 = .ok (.invokevirtual 52, 3) := by decide +kernel
theorem dX8_makeSheets_13 : decode cX8_makeSheets 13 = .ok (.ifCond .eq 31, 3) := by decide +kernel
theorem dX8_makeSheets_16 : decode cX8_makeSheets 16 = .ok (.aload_n 0, 1) := by decide +kernel
theorem dX8_makeSheets_17 : decode cX8_makeSheets 17 = .ok (.iload_n 1, 1) := by decide +kernel
theorem dX8_makeSheets_18 : decode cX8_makeSheets 18 = .ok (.invokevirtual 70, 3) := by decide +kernel
theorem dX8_makeSheets_21 : decode cX8_makeSheets 21 = .ok (.aload_n 0, 1) := by decide +kernel
theorem dX8_makeSheets_22 : decode cX8_makeSheets 22 = .ok (.getfield 18, 3) := by decide +kernel
theorem dX8_makeSheets_25 : decode cX8_makeSheets 25 = .ok (.iload_n 1, 1) := by decide +kernel
theorem dX8_makeSheets_26 : decode cX8_makeSheets 26 = .ok (.iaload, 1) := by decide +kernel
theorem dX8_makeSheets_27 : decode cX8_makeSheets 27 = .ok (.bipush 60, 2) := by decide +kernel
theorem dX8_makeSheets_29 : decode cX8_makeSheets 29 = .ok (.if_icmp .ne 9, 3) := by decide +kernel
theorem dX8_makeSheets_32 : decode cX8_makeSheets 32 = .ok (.aload_n 0, 1) := by decide +kernel
theorem dX8_makeSheets_33 : decode cX8_makeSheets 33 = .ok (.iload_n 1, 1) := by decide +kernel
theorem dX8_makeSheets_34 : decode cX8_makeSheets 34 = .ok (.iload_n 2, 1) := by decide +kernel
theorem dX8_makeSheets_35 : decode cX8_makeSheets 35 = .ok (.invokevirtual 74, 3) := by decide +kernel
theorem dX8_makeSheets_38 : decode cX8_makeSheets 38 = .ok (.iinc 3 1, 3) := by decide +kernel
theorem dX8_makeSheets_41 : decode cX8_makeSheets 41 = .ok (.goto (-39), 3) := by decide +kernel
theorem dX8_makeSheets_44 : decode cX8_makeSheets 44 = .ok (.return_, 1) := by decide +kernel
theorem dX8_makeSheet_0 : decode cX8_makeSheet 0 = .ok (.aload_n 0, 1) := by decide +kernel
theorem dX8_makeSheet_1 : decode cX8_makeSheet 1 = .ok (.getfield 18, 3) := by decide +kernel
theorem dX8_makeSheet_4 : decode cX8_makeSheet 4 = .ok (.iload_n 1, 1) := by decide +kernel
theorem dX8_makeSheet_5 : decode cX8_makeSheet 5 = .ok (.iaload, 1) := by decide +kernel
theorem dX8_makeSheet_6 : decode cX8_makeSheet 6 = .ok (.ifCond .ne 32, 3) := by decide +kernel
theorem dX8_makeSheet_9 : decode cX8_makeSheet 9 = .ok (.aload_n 0, 1) := by decide +kernel
theorem dX8_makeSheet_10 : decode cX8_makeSheet 10 = .ok (.getfield 30, 3) := by decide +kernel
theorem dX8_makeSheet_13 : decode cX8_makeSheet 13 = .ok (.getfield 77, 3) := by decide +kernel
theorem dX8_makeSheet_16 : decode cX8_makeSheet 16 = .ok (.aload_n 0, 1) := by decide +kernel
theorem dX8_makeSheet_17 : decode cX8_makeSheet 17 = .ok (.getfield 9, 3) := by decide +kernel
theorem dX8_makeSheet_20 : decode cX8_makeSheet 20 = .ok (.iload_n 1, 1) := by decide +kernel
theorem dX8_makeSheet_21 : decode cX8_makeSheet 21 = .ok (.iaload, 1) := by decide +kernel
theorem dX8_makeSheet_22 : decode cX8_makeSheet 22 = .ok (.bipush 12, 2) := by decide +kernel
theorem dX8_makeSheet_24 : decode cX8_makeSheet 24 = .ok (.imul, 1) := by decide +kernel
theorem dX8_makeSheet_25 : decode cX8_makeSheet 25 = .ok (.aload_n 0, 1) := by decide +kernel
theorem dX8_makeSheet_26 : decode cX8_makeSheet 26 = .ok (.getfield 24, 3) := by decide +kernel
theorem dX8_makeSheet_29 : decode cX8_makeSheet 29 = .ok (.iload_n 1, 1) := by decide +kernel
theorem dX8_makeSheet_30 : decode cX8_makeSheet 30 = .ok (.bipush 12, 2) := by decide +kernel
theorem dX8_makeSheet_32 : decode cX8_makeSheet 32 = .ok (.imul, 1) := by decide +kernel
theorem dX8_makeSheet_33 : decode cX8_makeSheet 33 = .ok (.bipush 12, 2) := by decide +kernel
theorem dX8_makeSheet_35 : decode cX8_makeSheet 35 = .ok (.invokestatic 80, 3) := by decide +kernel
theorem dX8_makeSheet_38 : decode cX8_makeSheet 38 = .ok (.aload_n 0, 1) := by decide +kernel
theorem dX8_makeSheet_39 : decode cX8_makeSheet 39 = .ok (.getfield 27, 3) := by decide +kernel
theorem dX8_makeSheet_42 : decode cX8_makeSheet 42 = .ok (.aload_n 0, 1) := by decide +kernel
theorem dX8_makeSheet_43 : decode cX8_makeSheet 43 = .ok (.getfield 15, 3) := by decide +kernel
theorem dX8_makeSheet_46 : decode cX8_makeSheet 46 = .ok (.iload_n 1, 1) := by decide +kernel
theorem dX8_makeSheet_47 : decode cX8_makeSheet 47 = .ok (.iaload, 1) := by decide +kernel
theorem dX8_makeSheet_48 : decode cX8_makeSheet 48 = .ok (.dup2, 1) := by decide +kernel
theorem dX8_makeSheet_49 : decode cX8_makeSheet 49 = .ok (.iaload, 1) := by decide +kernel
theorem dX8_makeSheet_50 : decode cX8_makeSheet 50 = .ok (.aload_n 0, 1) := by decide +kernel
theorem dX8_makeSheet_51 : decode cX8_makeSheet 51 = .ok (.getfield 30, 3) := by decide +kernel
theorem dX8_makeSheet_54 : decode cX8_makeSheet 54 = .ok (.getfield 65, 3) := by decide +kernel
theorem dX8_makeSheet_57 : decode cX8_makeSheet 57 = .ok (.aload_n 0, 1) := by decide +kernel
theorem dX8_makeSheet_58 : decode cX8_makeSheet 58 = .ok (.getfield 9, 3) := by decide +kernel
theorem dX8_makeSheet_61 : decode cX8_makeSheet 61 = .ok (.iload_n 1, 1) := by decide +kernel
theorem dX8_makeSheet_62 : decode cX8_makeSheet 62 = .ok (.iaload, 1) := by decide +kernel
theorem dX8_makeSheet_63 : decode cX8_makeSheet 63 = .ok (.iaload, 1) := by decide +kernel
theorem dX8_makeSheet_64 : decode cX8_makeSheet 64 = .ok (.isub, 1) := by decide +kernel
theorem dX8_makeSheet_65 : decode cX8_makeSheet 65 = .ok (.iastore, 1) := by decide +kernel
theorem dX8_makeSheet_66 : decode cX8_makeSheet 66 = .ok (.aload_n 0, 1) := by decide +kernel
theorem dX8_makeSheet_67 : decode cX8_makeSheet 67 = .ok (.getfield 30, 3) := by decide +kernel
theorem dX8_makeSheet_70 : decode cX8_makeSheet 70 = .ok (.iconst 2, 1) := by decide +kernel
theorem dX8_makeSheet_71 : decode cX8_makeSheet 71 = .ok (.aload_n 0, 1) := by decide +kernel
theorem dX8_makeSheet_72 : decode cX8_makeSheet 72 = .ok (.getfield 9, 3) := by decide +kernel
theorem dX8_makeSheet_75 : decode cX8_makeSheet 75 = .ok (.iload_n 1, 1) := by decide +kernel
theorem dX8_makeSheet_76 : decode cX8_makeSheet 76 = .ok (.iaload, 1) := by decide +kernel
theorem dX8_makeSheet_77 : decode cX8_makeSheet 77 = .ok (.imul, 1) := by decide +kernel
theorem dX8_makeSheet_78 : decode cX8_makeSheet 78 = .ok (.aload_n 0, 1) := by decide +kernel
theorem dX8_makeSheet_79 : decode cX8_makeSheet 79 = .ok (.getfield 18, 3) := by decide +kernel
theorem dX8_makeSheet_82 : decode cX8_makeSheet 82 = .ok (.iload_n 1, 1) := by decide +kernel
theorem dX8_makeSheet_83 : decode cX8_makeSheet 83 = .ok (.iaload, 1) := by decide +kernel
theorem dX8_makeSheet_84 : decode cX8_makeSheet 84 = .ok (.iconst 2, 1) := by decide +kernel
theorem dX8_makeSheet_85 : decode cX8_makeSheet 85 = .ok (.irem, 1) := by decide +kernel
theorem dX8_makeSheet_86 : decode cX8_makeSheet 86 = .ok (.iadd, 1) := by decide +kernel
theorem dX8_makeSheet_87 : decode cX8_makeSheet 87 = .ok (.invokevirtual 86, 3) := by decide +kernel
theorem dX8_makeSheet_90 : decode cX8_makeSheet 90 = .ok (.aload_n 0, 1) := by decide +kernel
theorem dX8_makeSheet_91 : decode cX8_makeSheet 91 = .ok (.getfield 18, 3) := by decide +kernel
theorem dX8_makeSheet_94 : decode cX8_makeSheet 94 = .ok (.iload_n 1, 1) := by decide +kernel
theorem dX8_makeSheet_95 : decode cX8_makeSheet 95 = .ok (.dup2, 1) := by decide +kernel
theorem dX8_makeSheet_96 : decode cX8_makeSheet 96 = .ok (.iaload, 1) := by decide +kernel
theorem dX8_makeSheet_97 : decode cX8_makeSheet 97 = .ok (.iconst 1, 1) := by decide +kernel
theorem dX8_makeSheet_98 : decode cX8_makeSheet 98 = .ok (.iadd, 1) := by decide +kernel
theorem dX8_makeSheet_99 : decode cX8_makeSheet 99 = .ok (.iastore, 1) := by decide +kernel
theorem dX8_makeSheet_100 : decode cX8_makeSheet 100 = .ok (.aload_n 0, 1) := by decide +kernel
theorem dX8_makeSheet_101 : decode cX8_makeSheet 101 = .ok (.dup, 1) := by decide +kernel
theorem dX8_makeSheet_102 : decode cX8_makeSheet 102 = .ok (.getfield 48, 3) := by decide +kernel
theorem dX8_makeSheet_105 : decode cX8_makeSheet 105 = .ok (.iconst 1, 1) := by decide +kernel
theorem dX8_makeSheet_106 : decode cX8_makeSheet 106 = .ok (.iadd, 1) := by decide +kernel
theorem dX8_makeSheet_107 : decode cX8_makeSheet 107 = .ok (.putfield 48, 3) := by decide +kernel
theorem dX8_makeSheet_110 : decode cX8_makeSheet 110 = .ok (.return_, 1) := by decide +kernel
theorem dX8_endPost_0 : decode cX8_endPost 0 = .ok (.aload_n 0, 1) := by decide +kernel
theorem dX8_endPost_1 : decode cX8_endPost 1 = .ok (.getfield 34, 3) := by decide +kernel
theorem dX8_endPost_4 : decode cX8_endPost 4 = .ok (.getfield 89, 3) := by decide +kernel
theorem dX8_endPost_7 : decode cX8_endPost 7 = .ok (.aload_n 0, 1) := by decide +kernel
theorem dX8_endPost_8 : decode cX8_endPost 8 = .ok (.getfield 34, 3) := by decide +kernel
theorem dX8_endPost_11 : decode cX8_endPost 11 = .ok (.getfield 60, 3) := by decide +kernel
theorem dX8_endPost_14 : decode cX8_endPost 14 = .ok (.aload_n 0, 1) := by decide +kernel
theorem dX8_endPost_15 : decode cX8_endPost 15 = .ok (.getfield 24, 3) := by decide +kernel
theorem dX8_endPost_18 : decode cX8_endPost 18 = .ok (.iload_n 1, 1) := by decide +kernel
theorem dX8_endPost_19 : decode cX8_endPost 19 = .ok (.bipush 12, 2) := by decide +kernel
theorem dX8_endPost_21 : decode cX8_endPost 21 = .ok (.imul, 1) := by decide +kernel
theorem dX8_endPost_22 : decode cX8_endPost 22 = .ok (.aload_n 0, 1) := by decide +kernel
theorem dX8_endPost_23 : decode cX8_endPost 23 = .ok (.getfield 30, 3) := by decide +kernel
theorem dX8_endPost_26 : decode cX8_endPost 26 = .ok (.aload_n 0, 1) := by decide +kernel
theorem dX8_endPost_27 : decode cX8_endPost 27 = .ok (.getfield 9, 3) := by decide +kernel
theorem dX8_endPost_30 : decode cX8_endPost 30 = .ok (.iload_n 1, 1) := by decide +kernel
theorem dX8_endPost_31 : decode cX8_endPost 31 = .ok (.iaload, 1) := by decide +kernel
theorem dX8_endPost_32 : decode cX8_endPost 32 = .ok (.invokevirtual 93, 3) := by decide +kernel
theorem dX8_endPost_35 : decode cX8_endPost 35 = .ok (.aload_n 0, 1) := by decide +kernel
theorem dX8_endPost_36 : decode cX8_endPost 36 = .ok (.getfield 34, 3) := by decide +kernel
theorem dX8_endPost_39 : decode cX8_endPost 39 = .ok (.aload_n 0, 1) := by decide +kernel
theorem dX8_endPost_40 : decode cX8_endPost 40 = .ok (.getfield 9, 3) := by decide +kernel
theorem dX8_endPost_43 : decode cX8_endPost 43 = .ok (.iload_n 1, 1) := by decide +kernel
theorem dX8_endPost_44 : decode cX8_endPost 44 = .ok (.iaload, 1) := by decide +kernel
theorem dX8_endPost_45 : decode cX8_endPost 45 = .ok (.aload_n 0, 1) := by decide +kernel
theorem dX8_endPost_46 : decode cX8_endPost 46 = .ok (.getfield 15, 3) := by decide +kernel
theorem dX8_endPost_49 : decode cX8_endPost 49 = .ok (.iload_n 1, 1) := by decide +kernel
theorem dX8_endPost_50 : decode cX8_endPost 50 = .ok (.iaload, 1) := by decide +kernel
theorem dX8_endPost_51 : decode cX8_endPost 51 = .ok (.iload_n 2, 1) := by decide +kernel
theorem dX8_endPost_52 : decode cX8_endPost 52 = .ok (.invokevirtual 99, 3) := by decide +kernel
theorem dX8_endPost_55 : decode cX8_endPost 55 = .ok (.aload_n 0, 1) := by decide +kernel
theorem dX8_endPost_56 : decode cX8_endPost 56 = .ok (.getfield 18, 3) := by decide +kernel
theorem dX8_endPost_59 : decode cX8_endPost 59 = .ok (.iload_n 1, 1) := by decide +kernel
theorem dX8_endPost_60 : decode cX8_endPost 60 = .ok (.iconst 0, 1) := by decide +kernel
theorem dX8_endPost_61 : decode cX8_endPost 61 = .ok (.iastore, 1) := by decide +kernel
theorem dX8_endPost_62 : decode cX8_endPost 62 = .ok (.return_, 1) := by decide +kernel
theorem dX9_init_0 : decode cX9_init 0 = .ok (.aload_n 0, 1) := by decide +kernel
theorem dX9_init_1 : decode cX9_init 1 = .ok (.invokespecial 3, 3) := by decide +kernel
theorem dX9_init_4 : decode cX9_init 4 = .ok (.aload_n 0, 1) := by decide +kernel
theorem dX9_init_5 : decode cX9_init 5 = .ok (.iconst 3, 1) := by decide +kernel
theorem dX9_init_6 : decode cX9_init 6 = .ok (.bipush 101, 2) := by decide +kernel
theorem dX9_init_8 : decode cX9_init 8 = .ok (.multianewarray 9 2, 4) := by decide +kernel
theorem dX9_init_12 : decode cX9_init 12 = .ok (.putfield 11, 3) := by decide +kernel
theorem dX9_init_15 : decode cX9_init 15 = .ok (.aload_n 0, 1) := by decide +kernel
theorem dX9_init_16 : decode cX9_init 16 = .ok (.iconst 3, 1) := by decide +kernel
theorem dX9_init_17 : decode cX9_init 17 = .ok (.bipush 101, 2) := by decide +kernel
theorem dX9_init_19 : decode cX9_init 19 = .ok (.multianewarray 9 2, 4) := by decide +kernel
theorem dX9_init_23 : decode cX9_init 23 = .ok (.putfield 16, 3) := by decide +kernel
theorem dX9_init_26 : decode cX9_init 26 = .ok (.aload_n 0, 1) := by decide +kernel
