theorem dX12_beaterOf_69 : decode cX12_beaterOf 69 = .ok (.aload_n 0, 1) := by decide +kernel
theorem dX12_beaterOf_70 : decode cX12_beaterOf 70 = .ok (.getfield 86, 3) := by decide +kernel
theorem dX12_beaterOf_73 : decode cX12_beaterOf 73 = .ok (.iload_n 3, 1) := by decide +kernel
theorem dX12_beaterOf_74 : decode cX12_beaterOf 74 = .ok (.iaload, 1) := by decide +kernel
theorem dX12_beaterOf_75 : decode cX12_beaterOf 75 = .ok (.ifCond .ne 7, 3) := by decide +kernel
theorem dX12_beaterOf_78 : decode cX12_beaterOf 78 = .ok (.iconst 0, 1) := by decide +kernel
theorem dX12_beaterOf_79 : decode cX12_beaterOf 79 = .ok (.goto 11, 3) := by decide +kernel
theorem dX12_beaterOf_82 : decode cX12_beaterOf 82 = .ok (.aload_n 0, 1) := by decide +kernel
theorem dX12_beaterOf_83 : decode cX12_beaterOf 83 = .ok (.getfield 86, 3) := by decide +kernel
theorem dX12_beaterOf_86 : decode cX12_beaterOf 86 = .ok (.iload_n 3, 1) := by decide +kernel
theorem dX12_beaterOf_87 : decode cX12_beaterOf 87 = .ok (.iload_n 2, 1) := by decide +kernel
theorem dX12_beaterOf_88 : decode cX12_beaterOf 88 = .ok (.iadd, 1) := by decide +kernel
theorem dX12_beaterOf_89 : decode cX12_beaterOf 89 = .ok (.iaload, 1) := by decide +kernel
theorem dX12_beaterOf_90 : decode cX12_beaterOf 90 = .ok (.ireturn, 1) := by decide +kernel
theorem dX12_vatOf_0 : decode cX12_vatOf 0 = .ok (.iload_n 1, 1) := by decide +kernel
theorem dX12_vatOf_1 : decode cX12_vatOf 1 = .ok (.iconst 3, 1) := by decide +kernel
theorem dX12_vatOf_2 : decode cX12_vatOf 2 = .ok (.invokestatic 95, 3) := by decide +kernel
theorem dX12_vatOf_5 : decode cX12_vatOf 5 = .ok (.ifCond .ne 9, 3) := by decide +kernel
theorem dX12_vatOf_8 : decode cX12_vatOf 8 = .ok (.aload_n 0, 1) := by decide +kernel
theorem dX12_vatOf_9 : decode cX12_vatOf 9 = .ok (.iconst (-1), 1) := by decide +kernel
theorem dX12_vatOf_10 : decode cX12_vatOf 10 = .ok (.invokevirtual 103, 3) := by decide +kernel
theorem dX12_vatOf_13 : decode cX12_vatOf 13 = .ok (.ireturn, 1) := by decide +kernel
theorem dX12_vatOf_14 : decode cX12_vatOf 14 = .ok (.iload_n 2, 1) := by decide +kernel
theorem dX12_vatOf_15 : decode cX12_vatOf 15 = .ok (.tableswitch 83 0 3 #[29, 50, 57, 69], 29) := by decide +kernel
theorem dX12_vatOf_44 : decode cX12_vatOf 44 = .ok (.aload_n 0, 1) := by decide +kernel
theorem dX12_vatOf_45 : decode cX12_vatOf 45 = .ok (.getfield 49, 3) := by decide +kernel
theorem dX12_vatOf_48 : decode cX12_vatOf 48 = .ok (.iload_n 1, 1) := by decide +kernel
theorem dX12_vatOf_49 : decode cX12_vatOf 49 = .ok (.iaload, 1) := by decide +kernel
theorem dX12_vatOf_50 : decode cX12_vatOf 50 = .ok (.ifCond .ge 8, 3) := by decide +kernel
theorem dX12_vatOf_53 : decode cX12_vatOf 53 = .ok (.bipush (-9), 2) := by decide +kernel
theorem dX12_vatOf_55 : decode cX12_vatOf 55 = .ok (.goto 9, 3) := by decide +kernel
theorem dX12_vatOf_58 : decode cX12_vatOf 58 = .ok (.aload_n 0, 1) := by decide +kernel
theorem dX12_vatOf_59 : decode cX12_vatOf 59 = .ok (.getfield 49, 3) := by decide +kernel
theorem dX12_vatOf_62 : decode cX12_vatOf 62 = .ok (.iload_n 1, 1) := by decide +kernel
theorem dX12_vatOf_63 : decode cX12_vatOf 63 = .ok (.iaload, 1) := by decide +kernel
theorem dX12_vatOf_64 : decode cX12_vatOf 64 = .ok (.ireturn, 1) := by decide +kernel
theorem dX12_vatOf_65 : decode cX12_vatOf 65 = .ok (.aload_n 0, 1) := by decide +kernel
theorem dX12_vatOf_66 : decode cX12_vatOf 66 = .ok (.getfield 52, 3) := by decide +kernel
theorem dX12_vatOf_69 : decode cX12_vatOf 69 = .ok (.iload_n 1, 1) := by decide +kernel
theorem dX12_vatOf_70 : decode cX12_vatOf 70 = .ok (.iaload, 1) := by decide +kernel
theorem dX12_vatOf_71 : decode cX12_vatOf 71 = .ok (.ireturn, 1) := by decide +kernel
theorem dX12_vatOf_72 : decode cX12_vatOf 72 = .ok (.aload_n 0, 1) := by decide +kernel
theorem dX12_vatOf_73 : decode cX12_vatOf 73 = .ok (.getfield 86, 3) := by decide +kernel
theorem dX12_vatOf_76 : decode cX12_vatOf 76 = .ok (.bipush 105, 2) := by decide +kernel
theorem dX12_vatOf_78 : decode cX12_vatOf 78 = .ok (.iconst 2, 1) := by decide +kernel
theorem dX12_vatOf_79 : decode cX12_vatOf 79 = .ok (.iload_n 1, 1) := by decide +kernel
theorem dX12_vatOf_80 : decode cX12_vatOf 80 = .ok (.imul, 1) := by decide +kernel
theorem dX12_vatOf_81 : decode cX12_vatOf 81 = .ok (.iadd, 1) := by decide +kernel
theorem dX12_vatOf_82 : decode cX12_vatOf 82 = .ok (.iaload, 1) := by decide +kernel
theorem dX12_vatOf_83 : decode cX12_vatOf 83 = .ok (.ireturn, 1) := by decide +kernel
theorem dX12_vatOf_84 : decode cX12_vatOf 84 = .ok (.aload_n 0, 1) := by decide +kernel
theorem dX12_vatOf_85 : decode cX12_vatOf 85 = .ok (.getfield 86, 3) := by decide +kernel
theorem dX12_vatOf_88 : decode cX12_vatOf 88 = .ok (.bipush 105, 2) := by decide +kernel
theorem dX12_vatOf_90 : decode cX12_vatOf 90 = .ok (.iconst 2, 1) := by decide +kernel
theorem dX12_vatOf_91 : decode cX12_vatOf 91 = .ok (.iload_n 1, 1) := by decide +kernel
theorem dX12_vatOf_92 : decode cX12_vatOf 92 = .ok (.imul, 1) := by decide +kernel
theorem dX12_vatOf_93 : decode cX12_vatOf 93 = .ok (.iadd, 1) := by decide +kernel
theorem dX12_vatOf_94 : decode cX12_vatOf 94 = .ok (.iconst 1, 1) := by decide +kernel
theorem dX12_vatOf_95 : decode cX12_vatOf 95 = .ok (.iadd, 1) := by decide +kernel
theorem dX12_vatOf_96 : decode cX12_vatOf 96 = .ok (.iaload, 1) := by decide +kernel
theorem dX12_vatOf_97 : decode cX12_vatOf 97 = .ok (.ireturn, 1) := by decide +kernel
theorem dX12_vatOf_98 : decode cX12_vatOf 98 = .ok (.aload_n 0, 1) := by decide +kernel
theorem dX12_vatOf_99 : decode cX12_vatOf 99 = .ok (.bipush (-2), 2) := by decide +kernel
theorem dX12_vatOf_101 : decode cX12_vatOf 101 = .ok (.invokevirtual 103, 3) := by decide +kernel
theorem dX12_vatOf_104 : decode cX12_vatOf 104 = .ok (.ireturn, 1) := by decide +kernel
theorem dX12_postOf_0 : decode cX12_postOf 0 = .ok (.iload_n 1, 1) := by decide +kernel
theorem dX12_postOf_1 : decode cX12_postOf 1 = .ok (.aload_n 0, 1) := by decide +kernel
theorem dX12_postOf_2 : decode cX12_postOf 2 = .ok (.getfield 86, 3) := by decide +kernel
theorem dX12_postOf_5 : decode cX12_postOf 5 = .ok (.sipush 752, 3) := by decide +kernel
theorem dX12_postOf_8 : decode cX12_postOf 8 = .ok (.iaload, 1) := by decide +kernel
theorem dX12_postOf_9 : decode cX12_postOf 9 = .ok (.invokestatic 95, 3) := by decide +kernel
theorem dX12_postOf_12 : decode cX12_postOf 12 = .ok (.ifCond .ne 9, 3) := by decide +kernel
theorem dX12_postOf_15 : decode cX12_postOf 15 = .ok (.aload_n 0, 1) := by decide +kernel
theorem dX12_postOf_16 : decode cX12_postOf 16 = .ok (.iconst (-1), 1) := by decide +kernel
theorem dX12_postOf_17 : decode cX12_postOf 17 = .ok (.invokevirtual 103, 3) := by decide +kernel
theorem dX12_postOf_20 : decode cX12_postOf 20 = .ok (.ireturn, 1) := by decide +kernel
theorem dX12_postOf_21 : decode cX12_postOf 21 = .ok (.iload_n 2, 1) := by decide +kernel
theorem dX12_postOf_22 : decode cX12_postOf 22 = .ok (.bipush 8, 2) := by decide +kernel
theorem dX12_postOf_24 : decode cX12_postOf 24 = .ok (.invokestatic 95, 3) := by decide +kernel
theorem dX12_postOf_27 : decode cX12_postOf 27 = .ok (.ifCond .eq 12, 3) := by decide +kernel
theorem dX12_postOf_30 : decode cX12_postOf 30 = .ok (.aload_n 0, 1) := by decide +kernel
theorem dX12_postOf_31 : decode cX12_postOf 31 = .ok (.iload_n 1, 1) := by decide +kernel
theorem dX12_postOf_32 : decode cX12_postOf 32 = .ok (.iload_n 2, 1) := by decide +kernel
theorem dX12_postOf_33 : decode cX12_postOf 33 = .ok (.invokevirtual 138, 3) := by decide +kernel
theorem dX12_postOf_36 : decode cX12_postOf 36 = .ok (.goto 9, 3) := by decide +kernel
theorem dX12_postOf_39 : decode cX12_postOf 39 = .ok (.aload_n 0, 1) := by decide +kernel
theorem dX12_postOf_40 : decode cX12_postOf 40 = .ok (.bipush (-2), 2) := by decide +kernel
theorem dX12_postOf_42 : decode cX12_postOf 42 = .ok (.invokevirtual 103, 3) := by decide +kernel
theorem dX12_postOf_45 : decode cX12_postOf 45 = .ok (.ireturn, 1) := by decide +kernel
theorem dX12_orderOf_0 : decode cX12_orderOf 0 = .ok (.iload_n 1, 1) := by decide +kernel
theorem dX12_orderOf_1 : decode cX12_orderOf 1 = .ok (.aload_n 0, 1) := by decide +kernel
theorem dX12_orderOf_2 : decode cX12_orderOf 2 = .ok (.getfield 154, 3) := by decide +kernel
theorem dX12_orderOf_5 : decode cX12_orderOf 5 = .ok (.invokestatic 95, 3) := by decide +kernel
theorem dX12_orderOf_8 : decode cX12_orderOf 8 = .ok (.ifCond .ne 9, 3) := by decide +kernel
theorem dX12_orderOf_11 : decode cX12_orderOf 11 = .ok (.aload_n 0, 1) := by decide +kernel
theorem dX12_orderOf_12 : decode cX12_orderOf 12 = .ok (.iconst (-1), 1) := by decide +kernel
theorem dX12_orderOf_13 : decode cX12_orderOf 13 = .ok (.invokevirtual 103, 3) := by decide +kernel
theorem dX12_orderOf_16 : decode cX12_orderOf 16 = .ok (.ireturn, 1) := by decide +kernel
theorem dX12_orderOf_17 : decode cX12_orderOf 17 = .ok (.iload_n 2, 1) := by decide +kernel
theorem dX12_orderOf_18 : decode cX12_orderOf 18 = .ok (.tableswitch 80 0 5 #[38, 45, 52, 59, 66, 73], 38) := by decide +kernel
theorem dX12_orderOf_56 : decode cX12_orderOf 56 = .ok (.aload_n 0, 1) := by decide +kernel
theorem dX12_orderOf_57 : decode cX12_orderOf 57 = .ok (.getfield 59, 3) := by decide +kernel
theorem dX12_orderOf_60 : decode cX12_orderOf 60 = .ok (.iload_n 1, 1) := by decide +kernel
theorem dX12_orderOf_61 : decode cX12_orderOf 61 = .ok (.iaload, 1) := by decide +kernel
theorem dX12_orderOf_62 : decode cX12_orderOf 62 = .ok (.ireturn, 1) := by decide +kernel
theorem dX12_orderOf_63 : decode cX12_orderOf 63 = .ok (.aload_n 0, 1) := by decide +kernel
theorem dX12_orderOf_64 : decode cX12_orderOf 64 = .ok (.getfield 62, 3) := by decide +kernel
theorem dX12_orderOf_67 : decode cX12_orderOf 67 = .ok (.iload_n 1, 1) := by decide +kernel
theorem dX12_orderOf_68 : decode cX12_orderOf 68 = .ok (.iaload, 1) := by decide +kernel
theorem dX12_orderOf_69 : decode cX12_orderOf 69 = .ok (.ireturn, 1) := by decide +kernel
theorem dX12_orderOf_70 : decode cX12_orderOf 70 = .ok (.aload_n 0, 1) := by decide +kernel
theorem dX12_orderOf_71 : decode cX12_orderOf 71 = .ok (.getfield 65, 3) := by decide +kernel
theorem dX12_orderOf_74 : decode cX12_orderOf 74 = .ok (.iload_n 1, 1) := by decide +kernel
theorem dX12_orderOf_75 : decode cX12_orderOf 75 = .ok (.iaload, 1) := by decide +kernel
theorem dX12_orderOf_76 : decode cX12_orderOf 76 = .ok (.ireturn, 1) := by decide +kernel
theorem dX12_orderOf_77 : decode cX12_orderOf 77 = .ok (.aload_n 0, 1) := by decide +kernel
theorem dX12_orderOf_78 : decode cX12_orderOf 78 = .ok (.getfield 68, 3) := by decide +kernel
theorem dX12_orderOf_81 : decode cX12_orderOf 81 = .ok (.iload_n 1, 1) := by decide +kernel
theorem dX12_orderOf_82 : decode cX12_orderOf 82 = .ok (.iaload, 1) := by decide +kernel
theorem dX12_orderOf_83 : decode cX12_orderOf 83 = .ok (.ireturn, 1) := by decide +kernel
theorem dX12_orderOf_84 : decode cX12_orderOf 84 = .ok (.aload_n 0, 1) := by decide +kernel
theorem dX12_orderOf_85 : decode cX12_orderOf 85 = .ok (.getfield 71, 3) := by decide +kernel
theorem dX12_orderOf_88 : decode cX12_orderOf 88 = .ok (.iload_n 1, 1) := by decide +kernel
theorem dX12_orderOf_89 : decode cX12_orderOf 89 = .ok (.iaload, 1) := by decide +kernel
theorem dX12_orderOf_90 : decode cX12_orderOf 90 = .ok (.ireturn, 1) := by decide +kernel
theorem dX12_orderOf_91 : decode cX12_orderOf 91 = .ok (.aload_n 0, 1) := by decide +kernel
theorem dX12_orderOf_92 : decode cX12_orderOf 92 = .ok (.getfield 74, 3) := by decide +kernel
theorem dX12_orderOf_95 : decode cX12_orderOf 95 = .ok (.iload_n 1, 1) := by decide +kernel
theorem dX12_orderOf_96 : decode cX12_orderOf 96 = .ok (.iaload, 1) := by decide +kernel
theorem dX12_orderOf_97 : decode cX12_orderOf 97 = .ok (.ireturn, 1) := by decide +kernel
theorem dX12_orderOf_98 : decode cX12_orderOf 98 = .ok (.aload_n 0, 1) := by decide +kernel
theorem dX12_orderOf_99 : decode cX12_orderOf 99 = .ok (.bipush (-2), 2) := by decide +kernel
theorem dX12_orderOf_101 : decode cX12_orderOf 101 = .ok (.invokevirtual 103, 3) := by decide +kernel
theorem dX12_orderOf_104 : decode cX12_orderOf 104 = .ok (.ireturn, 1) := by decide +kernel
theorem dX12_sheets_0 : decode cX12_sheets 0 = .ok (.aload_n 0, 1) := by decide +kernel
theorem dX12_sheets_1 : decode cX12_sheets 1 = .ok (.iload_n 1, 1) := by decide +kernel
theorem dX12_sheets_2 : decode cX12_sheets 2 = .ok (.invokevirtual 111, 3) := by decide +kernel
theorem dX12_sheets_5 : decode cX12_sheets 5 = .ok (.ifCond .eq 24, 3) := by decide +kernel
theorem dX12_sheets_8 : decode cX12_sheets 8 = .ok (.iload_n 2, 1) := by decide +kernel
theorem dX12_sheets_9 : decode cX12_sheets 9 = .ok (.invokestatic 151, 3) := by decide +kernel
theorem dX12_sheets_12 : decode cX12_sheets 12 = .ok (.ifCond .eq 17, 3) := by decide +kernel
theorem dX12_sheets_15 : decode cX12_sheets 15 = .ok (.aload_n 0, 1) := by decide +kernel
theorem dX12_sheets_16 : decode cX12_sheets 16 = .ok (.getfield 31, 3) := by decide +kernel
theorem dX12_sheets_19 : decode cX12_sheets 19 = .ok (.bipush 9, 2) := by decide +kernel
theorem dX12_sheets_21 : decode cX12_sheets 21 = .ok (.iload_n 1, 1) := by decide +kernel
theorem dX12_sheets_22 : decode cX12_sheets 22 = .ok (.imul, 1) := by decide +kernel
theorem dX12_sheets_23 : decode cX12_sheets 23 = .ok (.iload_n 2, 1) := by decide +kernel
theorem dX12_sheets_24 : decode cX12_sheets 24 = .ok (.iadd, 1) := by decide +kernel
theorem dX12_sheets_25 : decode cX12_sheets 25 = .ok (.iaload, 1) := by decide +kernel
theorem dX12_sheets_26 : decode cX12_sheets 26 = .ok (.goto 8, 3) := by decide +kernel
theorem dX12_sheets_29 : decode cX12_sheets 29 = .ok (.aload_n 0, 1) := by decide +kernel
theorem dX12_sheets_30 : decode cX12_sheets 30 = .ok (.iconst (-1), 1) := by decide +kernel
theorem dX12_sheets_31 : decode cX12_sheets 31 = .ok (.invokevirtual 103, 3) := by decide +kernel
theorem dX12_sheets_34 : decode cX12_sheets 34 = .ok (.ireturn, 1) := by decide +kernel
theorem dX12_count_0 : decode cX12_count 0 = .ok (.iload_n 1, 1) := by decide +kernel
theorem dX12_count_1 : decode cX12_count 1 = .ok (.bipush 10, 2) := by decide +kernel
theorem dX12_count_3 : decode cX12_count 3 = .ok (.if_icmp .le 19, 3) := by decide +kernel
theorem dX12_count_6 : decode cX12_count 6 = .ok (.iload_n 1, 1) := by decide +kernel
theorem dX12_count_7 : decode cX12_count 7 = .ok (.bipush 17, 2) := by decide +kernel
theorem dX12_count_9 : decode cX12_count 9 = .ok (.if_icmp .ge 13, 3) := by decide +kernel
theorem dX12_count_12 : decode cX12_count 12 = .ok (.aload_n 0, 1) := by decide +kernel
theorem dX12_count_13 : decode cX12_count 13 = .ok (.getfield 7, 3) := by decide +kernel
theorem dX12_count_16 : decode cX12_count 16 = .ok (.iload_n 1, 1) := by decide +kernel
theorem dX12_count_17 : decode cX12_count 17 = .ok (.bipush 10, 2) := by decide +kernel
theorem dX12_count_19 : decode cX12_count 19 = .ok (.isub, 1) := by decide +kernel
theorem dX12_count_20 : decode cX12_count 20 = .ok (.iaload, 1) := by decide +kernel
theorem dX12_count_21 : decode cX12_count 21 = .ok (.ireturn, 1) := by decide +kernel
theorem dX12_count_22 : decode cX12_count 22 = .ok (.aload_n 0, 1) := by decide +kernel
theorem dX12_count_23 : decode cX12_count 23 = .ok (.iload_n 1, 1) := by decide +kernel
theorem dX12_count_24 : decode cX12_count 24 = .ok (.bipush 20, 2) := by decide +kernel
theorem dX12_count_26 : decode cX12_count 26 = .ok (.isub, 1) := by decide +kernel
theorem dX12_count_27 : decode cX12_count 27 = .ok (.invokevirtual 111, 3) := by decide +kernel
theorem dX12_count_30 : decode cX12_count 30 = .ok (.ifCond .eq 13, 3) := by decide +kernel
theorem dX12_count_33 : decode cX12_count 33 = .ok (.aload_n 0, 1) := by decide +kernel
theorem dX12_count_34 : decode cX12_count 34 = .ok (.getfield 25, 3) := by decide +kernel
theorem dX12_count_37 : decode cX12_count 37 = .ok (.iload_n 1, 1) := by decide +kernel
theorem dX12_count_38 : decode cX12_count 38 = .ok (.bipush 20, 2) := by decide +kernel
theorem dX12_count_40 : decode cX12_count 40 = .ok (.isub, 1) := by decide +kernel
theorem dX12_count_41 : decode cX12_count 41 = .ok (.iaload, 1) := by decide +kernel
theorem dX12_count_42 : decode cX12_count 42 = .ok (.ireturn, 1) := by decide +kernel
theorem dX12_count_43 : decode cX12_count 43 = .ok (.aload_n 0, 1) := by decide +kernel
theorem dX12_count_44 : decode cX12_count 44 = .ok (.iload_n 1, 1) := by decide +kernel
theorem dX12_count_45 : decode cX12_count 45 = .ok (.bipush 30, 2) := by decide +kernel
theorem dX12_count_47 : decode cX12_count 47 = .ok (.isub, 1) := by decide +kernel
theorem dX12_count_48 : decode cX12_count 48 = .ok (.invokevirtual 111, 3) := by decide +kernel
theorem dX12_count_51 : decode cX12_count 51 = .ok (.ifCond .eq 16, 3) := by decide +kernel
theorem dX12_count_54 : decode cX12_count 54 = .ok (.aload_n 0, 1) := by decide +kernel
theorem dX12_count_55 : decode cX12_count 55 = .ok (.getfield 86, 3) := by decide +kernel
theorem dX12_count_58 : decode cX12_count 58 = .ok (.bipush 96, 2) := by decide +kernel
theorem dX12_count_60 : decode cX12_count 60 = .ok (.iload_n 1, 1) := by decide +kernel
theorem dX12_count_61 : decode cX12_count 61 = .ok (.iadd, 1) := by decide +kernel
theorem dX12_count_62 : decode cX12_count 62 = .ok (.bipush 30, 2) := by decide +kernel
theorem dX12_count_64 : decode cX12_count 64 = .ok (.isub, 1) := by decide +kernel
theorem dX12_count_65 : decode cX12_count 65 = .ok (.iaload, 1) := by decide +kernel
theorem dX12_count_66 : decode cX12_count 66 = .ok (.ireturn, 1) := by decide +kernel
theorem dX12_count_67 : decode cX12_count 67 = .ok (.iload_n 1, 1) := by decide +kernel
theorem dX12_count_68 : decode cX12_count 68 = .ok (.tableswitch 126 0 9 #[56, 65, 70, 75, 84, 89, 97, 102, 111, 120], 56) := by decide +kernel
theorem dX12_count_124 : decode cX12_count 124 = .ok (.aload_n 0, 1) := by decide +kernel
theorem dX12_count_125 : decode cX12_count 125 = .ok (.getfield 86, 3) := by decide +kernel
theorem dX12_count_128 : decode cX12_count 128 = .ok (.sipush 751, 3) := by decide +kernel
theorem dX12_count_131 : decode cX12_count 131 = .ok (.iaload, 1) := by decide +kernel
theorem dX12_count_132 : decode cX12_count 132 = .ok (.ireturn, 1) := by decide +kernel
theorem dX12_count_133 : decode cX12_count 133 = .ok (.aload_n 0, 1) := by decide +kernel
theorem dX12_count_134 : decode cX12_count 134 = .ok (.getfield 115, 3) := by decide +kernel
theorem dX12_count_137 : decode cX12_count 137 = .ok (.ireturn, 1) := by decide +kernel
theorem dX12_count_138 : decode cX12_count 138 = .ok (.aload_n 0, 1) := by decide +kernel
theorem dX12_count_139 : decode cX12_count 139 = .ok (.getfield 129, 3) := by decide +kernel
theorem dX12_count_142 : decode cX12_count 142 = .ok (.ireturn, 1) := by decide +kernel
theorem dX12_count_143 : decode cX12_count 143 = .ok (.aload_n 0, 1) := by decide +kernel
theorem dX12_count_144 : decode cX12_count 144 = .ok (.getfield 86, 3) := by decide +kernel
theorem dX12_count_147 : decode cX12_count 147 = .ok (.sipush 752, 3) := by decide +kernel
theorem dX12_count_150 : decode cX12_count 150 = .ok (.iaload, 1) := by decide +kernel
theorem dX12_count_151 : decode cX12_count 151 = .ok (.ireturn, 1) := by decide +kernel
theorem dX12_count_152 : decode cX12_count 152 = .ok (.aload_n 0, 1) := by decide +kernel
theorem dX12_count_153 : decode cX12_count 153 = .ok (.getfield 154, 3) := by decide +kernel
theorem dX12_count_156 : decode cX12_count 156 = .ok (.ireturn, 1) := by decide +kernel
theorem dX12_count_157 : decode cX12_count 157 = .ok (.aload_n 0, 1) := by decide +kernel
theorem dX12_count_158 : decode cX12_count 158 = .ok (.getfield 162, 3) := by decide +kernel
theorem dX12_count_161 : decode cX12_count 161 = .ok (.ldc 157, 2) := by decide +kernel
theorem dX12_count_163 : decode cX12_count 163 = .ok (.iadd, 1) := by decide +kernel
theorem dX12_count_164 : decode cX12_count 164 = .ok (.ireturn, 1) := by decide +kernel
theorem dX12_count_165 : decode cX12_count 165 = .ok (.aload_n 0, 1) := by decide +kernel
theorem dX12_count_166 : decode cX12_count 166 = .ok (.getfield 135, 3) := by decide +kernel
theorem dX12_count_169 : decode cX12_count 169 = .ok (.ireturn, 1) := by decide +kernel
theorem dX12_count_170 : decode cX12_count 170 = .ok (.aload_n 0, 1) := by decide +kernel
theorem dX12_count_171 : decode cX12_count 171 = .ok (.getfield 86, 3) := by decide +kernel
theorem dX12_count_174 : decode cX12_count 174 = .ok (.sipush 753, 3) := by decide +kernel
theorem dX12_count_177 : decode cX12_count 177 = .ok (.iaload, 1) := by decide +kernel
theorem dX12_count_178 : decode cX12_count 178 = .ok (.ireturn, 1) := by decide +kernel
theorem dX12_count_179 : decode cX12_count 179 = .ok (.aload_n 0, 1) := by decide +kernel
theorem dX12_count_180 : decode cX12_count 180 = .ok (.getfield 86, 3) := by decide +kernel
theorem dX12_count_183 : decode cX12_count 183 = .ok (.sipush 754, 3) := by decide +kernel
theorem dX12_count_186 : decode cX12_count 186 = .ok (.iaload, 1) := by decide +kernel
theorem dX12_count_187 : decode cX12_count 187 = .ok (.ireturn, 1) := by decide +kernel
theorem dX12_count_188 : decode cX12_count 188 = .ok (.aload_n 0, 1) := by decide +kernel
theorem dX12_count_189 : decode cX12_count 189 = .ok (.iconst 1, 1) := by decide +kernel
theorem dX12_count_190 : decode cX12_count 190 = .ok (.invokevirtual 193, 3) := by decide +kernel
theorem dX12_count_193 : decode cX12_count 193 = .ok (.ireturn, 1) := by decide +kernel
theorem dX12_count_194 : decode cX12_count 194 = .ok (.bipush (-9), 2) := by decide +kernel
theorem dX12_count_196 : decode cX12_count 196 = .ok (.ireturn, 1) := by decide +kernel
