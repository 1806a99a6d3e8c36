theorem dX11_lies_28 : decode cX11_lies 28 = .ok (.iload_n 1, 1) := by decide +kernel
theorem dX11_lies_29 : decode cX11_lies 29 = .ok (.invokevirtual 286, 3) := by decide +kernel
theorem dX11_lies_32 : decode cX11_lies 32 = .ok (.ireturn, 1) := by decide +kernel
theorem dX11_nearest_0 : decode cX11_nearest 0 = .ok (.iload_n 1, 1) := by decide +kernel
theorem dX11_nearest_1 : decode cX11_nearest 1 = .ok (.iconst 5, 1) := by decide +kernel
theorem dX11_nearest_2 : decode cX11_nearest 2 = .ok (.invokestatic 65, 3) := by decide +kernel
theorem dX11_nearest_5 : decode cX11_nearest 5 = .ok (.ifCond .ne 10, 3) := by decide +kernel
theorem dX11_nearest_8 : decode cX11_nearest 8 = .ok (.aload_n 0, 1) := by decide +kernel
theorem dX11_nearest_9 : decode cX11_nearest 9 = .ok (.bipush (-2), 2) := by decide +kernel
theorem dX11_nearest_11 : decode cX11_nearest 11 = .ok (.invokevirtual 69, 3) := by decide +kernel
theorem dX11_nearest_14 : decode cX11_nearest 14 = .ok (.ireturn, 1) := by decide +kernel
theorem dX11_nearest_15 : decode cX11_nearest 15 = .ok (.aload_n 0, 1) := by decide +kernel
theorem dX11_nearest_16 : decode cX11_nearest 16 = .ok (.getfield 28, 3) := by decide +kernel
theorem dX11_nearest_19 : decode cX11_nearest 19 = .ok (.getfield 44, 3) := by decide +kernel
theorem dX11_nearest_22 : decode cX11_nearest 22 = .ok (.getfield 193, 3) := by decide +kernel
theorem dX11_nearest_25 : decode cX11_nearest 25 = .ok (.ifCond .ne 6, 3) := by decide +kernel
theorem dX11_nearest_28 : decode cX11_nearest 28 = .ok (.bipush (-9), 2) := by decide +kernel
theorem dX11_nearest_30 : decode cX11_nearest 30 = .ok (.ireturn, 1) := by decide +kernel
theorem dX11_nearest_31 : decode cX11_nearest 31 = .ok (.aload_n 0, 1) := by decide +kernel
theorem dX11_nearest_32 : decode cX11_nearest 32 = .ok (.getfield 51, 3) := by decide +kernel
theorem dX11_nearest_35 : decode cX11_nearest 35 = .ok (.invokevirtual 289, 3) := by decide +kernel
theorem dX11_nearest_38 : decode cX11_nearest 38 = .ok (.aload_n 0, 1) := by decide +kernel
theorem dX11_nearest_39 : decode cX11_nearest 39 = .ok (.getfield 51, 3) := by decide +kernel
theorem dX11_nearest_42 : decode cX11_nearest 42 = .ok (.getfield 292, 3) := by decide +kernel
theorem dX11_nearest_45 : decode cX11_nearest 45 = .ok (.istore_n 2, 1) := by decide +kernel
theorem dX11_nearest_46 : decode cX11_nearest 46 = .ok (.aload_n 0, 1) := by decide +kernel
theorem dX11_nearest_47 : decode cX11_nearest 47 = .ok (.getfield 51, 3) := by decide +kernel
theorem dX11_nearest_50 : decode cX11_nearest 50 = .ok (.getfield 295, 3) := by decide +kernel
theorem dX11_nearest_53 : decode cX11_nearest 53 = .ok (.istore_n 3, 1) := by decide +kernel
theorem dX11_nearest_54 : decode cX11_nearest 54 = .ok (.iload_n 1, 1) := by decide +kernel
theorem dX11_nearest_55 : decode cX11_nearest 55 = .ok (.tableswitch 60 0 3 #[29, 31, 33, 52], 29) := by decide +kernel
theorem dX11_nearest_84 : decode cX11_nearest 84 = .ok (.iload_n 2, 1) := by decide +kernel
theorem dX11_nearest_85 : decode cX11_nearest 85 = .ok (.ireturn, 1) := by decide +kernel
theorem dX11_nearest_86 : decode cX11_nearest 86 = .ok (.iload_n 3, 1) := by decide +kernel
theorem dX11_nearest_87 : decode cX11_nearest 87 = .ok (.ireturn, 1) := by decide +kernel
theorem dX11_nearest_88 : decode cX11_nearest 88 = .ok (.iconst 2, 1) := by decide +kernel
theorem dX11_nearest_89 : decode cX11_nearest 89 = .ok (.aload_n 0, 1) := by decide +kernel
theorem dX11_nearest_90 : decode cX11_nearest 90 = .ok (.getfield 28, 3) := by decide +kernel
theorem dX11_nearest_93 : decode cX11_nearest 93 = .ok (.getfield 44, 3) := by decide +kernel
theorem dX11_nearest_96 : decode cX11_nearest 96 = .ok (.getfield 298, 3) := by decide +kernel
theorem dX11_nearest_99 : decode cX11_nearest 99 = .ok (.iload_n 2, 1) := by decide +kernel
theorem dX11_nearest_100 : decode cX11_nearest 100 = .ok (.iaload, 1) := by decide +kernel
theorem dX11_nearest_101 : decode cX11_nearest 101 = .ok (.imul, 1) := by decide +kernel
theorem dX11_nearest_102 : decode cX11_nearest 102 = .ok (.iload_n 3, 1) := by decide +kernel
theorem dX11_nearest_103 : decode cX11_nearest 103 = .ok (.iconst 2, 1) := by decide +kernel
theorem dX11_nearest_104 : decode cX11_nearest 104 = .ok (.irem, 1) := by decide +kernel
theorem dX11_nearest_105 : decode cX11_nearest 105 = .ok (.iadd, 1) := by decide +kernel
theorem dX11_nearest_106 : decode cX11_nearest 106 = .ok (.ireturn, 1) := by decide +kernel
theorem dX11_nearest_107 : decode cX11_nearest 107 = .ok (.aload_n 0, 1) := by decide +kernel
theorem dX11_nearest_108 : decode cX11_nearest 108 = .ok (.getfield 51, 3) := by decide +kernel
theorem dX11_nearest_111 : decode cX11_nearest 111 = .ok (.getfield 299, 3) := by decide +kernel
theorem dX11_nearest_114 : decode cX11_nearest 114 = .ok (.ireturn, 1) := by decide +kernel
theorem dX11_nearest_115 : decode cX11_nearest 115 = .ok (.aload_n 0, 1) := by decide +kernel
theorem dX11_nearest_116 : decode cX11_nearest 116 = .ok (.getfield 28, 3) := by decide +kernel
theorem dX11_nearest_119 : decode cX11_nearest 119 = .ok (.getfield 44, 3) := by decide +kernel
theorem dX11_nearest_122 : decode cX11_nearest 122 = .ok (.getfield 302, 3) := by decide +kernel
theorem dX11_nearest_125 : decode cX11_nearest 125 = .ok (.iload_n 2, 1) := by decide +kernel
theorem dX11_nearest_126 : decode cX11_nearest 126 = .ok (.iaload, 1) := by decide +kernel
theorem dX11_nearest_127 : decode cX11_nearest 127 = .ok (.ireturn, 1) := by decide +kernel
theorem dX11_span_0 : decode cX11_span 0 = .ok (.aload_n 0, 1) := by decide +kernel
theorem dX11_span_1 : decode cX11_span 1 = .ok (.iload_n 1, 1) := by decide +kernel
theorem dX11_span_2 : decode cX11_span 2 = .ok (.invokevirtual 154, 3) := by decide +kernel
theorem dX11_span_5 : decode cX11_span 5 = .ok (.ifCond .ne 9, 3) := by decide +kernel
theorem dX11_span_8 : decode cX11_span 8 = .ok (.aload_n 0, 1) := by decide +kernel
theorem dX11_span_9 : decode cX11_span 9 = .ok (.iconst (-1), 1) := by decide +kernel
theorem dX11_span_10 : decode cX11_span 10 = .ok (.invokevirtual 69, 3) := by decide +kernel
theorem dX11_span_13 : decode cX11_span 13 = .ok (.ireturn, 1) := by decide +kernel
theorem dX11_span_14 : decode cX11_span 14 = .ok (.iload_n 2, 1) := by decide +kernel
theorem dX11_span_15 : decode cX11_span 15 = .ok (.ifCond .ge 10, 3) := by decide +kernel
theorem dX11_span_18 : decode cX11_span 18 = .ok (.aload_n 0, 1) := by decide +kernel
theorem dX11_span_19 : decode cX11_span 19 = .ok (.bipush (-4), 2) := by decide +kernel
theorem dX11_span_21 : decode cX11_span 21 = .ok (.invokevirtual 69, 3) := by decide +kernel
theorem dX11_span_24 : decode cX11_span 24 = .ok (.ireturn, 1) := by decide +kernel
theorem dX11_span_25 : decode cX11_span 25 = .ok (.iload_n 2, 1) := by decide +kernel
theorem dX11_span_26 : decode cX11_span 26 = .ok (.bipush 99, 2) := by decide +kernel
theorem dX11_span_28 : decode cX11_span 28 = .ok (.if_icmp .le 10, 3) := by decide +kernel
theorem dX11_span_31 : decode cX11_span 31 = .ok (.aload_n 0, 1) := by decide +kernel
theorem dX11_span_32 : decode cX11_span 32 = .ok (.bipush (-6), 2) := by decide +kernel
theorem dX11_span_34 : decode cX11_span 34 = .ok (.invokevirtual 69, 3) := by decide +kernel
theorem dX11_span_37 : decode cX11_span 37 = .ok (.ireturn, 1) := by decide +kernel
theorem dX11_span_38 : decode cX11_span 38 = .ok (.aload_n 0, 1) := by decide +kernel
theorem dX11_span_39 : decode cX11_span 39 = .ok (.getfield 51, 3) := by decide +kernel
theorem dX11_span_42 : decode cX11_span 42 = .ok (.iload_n 1, 1) := by decide +kernel
theorem dX11_span_43 : decode cX11_span 43 = .ok (.iload_n 2, 1) := by decide +kernel
theorem dX11_span_44 : decode cX11_span 44 = .ok (.iload_n 3, 1) := by decide +kernel
theorem dX11_span_45 : decode cX11_span 45 = .ok (.invokevirtual 305, 3) := by decide +kernel
theorem dX11_span_48 : decode cX11_span 48 = .ok (.ireturn, 1) := by decide +kernel
theorem dX11_heapOf_0 : decode cX11_heapOf 0 = .ok (.aload_n 0, 1) := by decide +kernel
theorem dX11_heapOf_1 : decode cX11_heapOf 1 = .ok (.getfield 28, 3) := by decide +kernel
theorem dX11_heapOf_4 : decode cX11_heapOf 4 = .ok (.getfield 99, 3) := by decide +kernel
theorem dX11_heapOf_7 : decode cX11_heapOf 7 = .ok (.astore_n 3, 1) := by decide +kernel
theorem dX11_heapOf_8 : decode cX11_heapOf 8 = .ok (.iload_n 1, 1) := by decide +kernel
theorem dX11_heapOf_9 : decode cX11_heapOf 9 = .ok (.aload_n 3, 1) := by decide +kernel
theorem dX11_heapOf_10 : decode cX11_heapOf 10 = .ok (.getfield 103, 3) := by decide +kernel
theorem dX11_heapOf_13 : decode cX11_heapOf 13 = .ok (.invokestatic 65, 3) := by decide +kernel
theorem dX11_heapOf_16 : decode cX11_heapOf 16 = .ok (.ifCond .ne 9, 3) := by decide +kernel
theorem dX11_heapOf_19 : decode cX11_heapOf 19 = .ok (.aload_n 0, 1) := by decide +kernel
theorem dX11_heapOf_20 : decode cX11_heapOf 20 = .ok (.iconst (-1), 1) := by decide +kernel
theorem dX11_heapOf_21 : decode cX11_heapOf 21 = .ok (.invokevirtual 69, 3) := by decide +kernel
theorem dX11_heapOf_24 : decode cX11_heapOf 24 = .ok (.ireturn, 1) := by decide +kernel
theorem dX11_heapOf_25 : decode cX11_heapOf 25 = .ok (.iload_n 2, 1) := by decide +kernel
theorem dX11_heapOf_26 : decode cX11_heapOf 26 = .ok (.tableswitch 89 0 4 #[34, 41, 48, 61, 82], 34) := by decide +kernel
theorem dX11_heapOf_60 : decode cX11_heapOf 60 = .ok (.aload_n 3, 1) := by decide +kernel
theorem dX11_heapOf_61 : decode cX11_heapOf 61 = .ok (.getfield 132, 3) := by decide +kernel
theorem dX11_heapOf_64 : decode cX11_heapOf 64 = .ok (.iload_n 1, 1) := by decide +kernel
theorem dX11_heapOf_65 : decode cX11_heapOf 65 = .ok (.iaload, 1) := by decide +kernel
theorem dX11_heapOf_66 : decode cX11_heapOf 66 = .ok (.ireturn, 1) := by decide +kernel
theorem dX11_heapOf_67 : decode cX11_heapOf 67 = .ok (.aload_n 3, 1) := by decide +kernel
theorem dX11_heapOf_68 : decode cX11_heapOf 68 = .ok (.getfield 129, 3) := by decide +kernel
theorem dX11_heapOf_71 : decode cX11_heapOf 71 = .ok (.iload_n 1, 1) := by decide +kernel
theorem dX11_heapOf_72 : decode cX11_heapOf 72 = .ok (.iaload, 1) := by decide +kernel
theorem dX11_heapOf_73 : decode cX11_heapOf 73 = .ok (.ireturn, 1) := by decide +kernel
theorem dX11_heapOf_74 : decode cX11_heapOf 74 = .ok (.aload_n 3, 1) := by decide +kernel
theorem dX11_heapOf_75 : decode cX11_heapOf 75 = .ok (.iload_n 1, 1) := by decide +kernel
theorem dX11_heapOf_76 : decode cX11_heapOf 76 = .ok (.aload_n 0, 1) := by decide +kernel
theorem dX11_heapOf_77 : decode cX11_heapOf 77 = .ok (.getfield 28, 3) := by decide +kernel
theorem dX11_heapOf_80 : decode cX11_heapOf 80 = .ok (.getfield 109, 3) := by decide +kernel
theorem dX11_heapOf_83 : decode cX11_heapOf 83 = .ok (.invokevirtual 309, 3) := by decide +kernel
theorem dX11_heapOf_86 : decode cX11_heapOf 86 = .ok (.ireturn, 1) := by decide +kernel
theorem dX11_heapOf_87 : decode cX11_heapOf 87 = .ok (.aload_n 3, 1) := by decide +kernel
theorem dX11_heapOf_88 : decode cX11_heapOf 88 = .ok (.iload_n 1, 1) := by decide +kernel
theorem dX11_heapOf_89 : decode cX11_heapOf 89 = .ok (.aload_n 0, 1) := by decide +kernel
theorem dX11_heapOf_90 : decode cX11_heapOf 90 = .ok (.getfield 28, 3) := by decide +kernel
theorem dX11_heapOf_93 : decode cX11_heapOf 93 = .ok (.getfield 109, 3) := by decide +kernel
theorem dX11_heapOf_96 : decode cX11_heapOf 96 = .ok (.invokevirtual 126, 3) := by decide +kernel
theorem dX11_heapOf_99 : decode cX11_heapOf 99 = .ok (.ifCond .eq 7, 3) := by decide +kernel
theorem dX11_heapOf_102 : decode cX11_heapOf 102 = .ok (.iconst 1, 1) := by decide +kernel
theorem dX11_heapOf_103 : decode cX11_heapOf 103 = .ok (.goto 4, 3) := by decide +kernel
theorem dX11_heapOf_106 : decode cX11_heapOf 106 = .ok (.iconst 0, 1) := by decide +kernel
theorem dX11_heapOf_107 : decode cX11_heapOf 107 = .ok (.ireturn, 1) := by decide +kernel
theorem dX11_heapOf_108 : decode cX11_heapOf 108 = .ok (.aload_n 3, 1) := by decide +kernel
theorem dX11_heapOf_109 : decode cX11_heapOf 109 = .ok (.getfield 312, 3) := by decide +kernel
theorem dX11_heapOf_112 : decode cX11_heapOf 112 = .ok (.iload_n 1, 1) := by decide +kernel
theorem dX11_heapOf_113 : decode cX11_heapOf 113 = .ok (.iaload, 1) := by decide +kernel
theorem dX11_heapOf_114 : decode cX11_heapOf 114 = .ok (.ireturn, 1) := by decide +kernel
theorem dX11_heapOf_115 : decode cX11_heapOf 115 = .ok (.aload_n 0, 1) := by decide +kernel
theorem dX11_heapOf_116 : decode cX11_heapOf 116 = .ok (.bipush (-2), 2) := by decide +kernel
theorem dX11_heapOf_118 : decode cX11_heapOf 118 = .ok (.invokevirtual 69, 3) := by decide +kernel
theorem dX11_heapOf_121 : decode cX11_heapOf 121 = .ok (.ireturn, 1) := by decide +kernel
theorem dX11_beaterOf_0 : decode cX11_beaterOf 0 = .ok (.iload_n 1, 1) := by decide +kernel
theorem dX11_beaterOf_1 : decode cX11_beaterOf 1 = .ok (.iconst 4, 1) := by decide +kernel
theorem dX11_beaterOf_2 : decode cX11_beaterOf 2 = .ok (.invokestatic 65, 3) := by decide +kernel
theorem dX11_beaterOf_5 : decode cX11_beaterOf 5 = .ok (.ifCond .ne 9, 3) := by decide +kernel
theorem dX11_beaterOf_8 : decode cX11_beaterOf 8 = .ok (.aload_n 0, 1) := by decide +kernel
theorem dX11_beaterOf_9 : decode cX11_beaterOf 9 = .ok (.iconst (-1), 1) := by decide +kernel
theorem dX11_beaterOf_10 : decode cX11_beaterOf 10 = .ok (.invokevirtual 69, 3) := by decide +kernel
theorem dX11_beaterOf_13 : decode cX11_beaterOf 13 = .ok (.ireturn, 1) := by decide +kernel
theorem dX11_beaterOf_14 : decode cX11_beaterOf 14 = .ok (.aload_n 0, 1) := by decide +kernel
theorem dX11_beaterOf_15 : decode cX11_beaterOf 15 = .ok (.getfield 28, 3) := by decide +kernel
theorem dX11_beaterOf_18 : decode cX11_beaterOf 18 = .ok (.getfield 116, 3) := by decide +kernel
theorem dX11_beaterOf_21 : decode cX11_beaterOf 21 = .ok (.astore_n 3, 1) := by decide +kernel
theorem dX11_beaterOf_22 : decode cX11_beaterOf 22 = .ok (.iload_n 2, 1) := by decide +kernel
theorem dX11_beaterOf_23 : decode cX11_beaterOf 23 = .ok (.tableswitch 70 0 3 #[29, 36, 56, 63], 29) := by decide +kernel
theorem dX11_beaterOf_52 : decode cX11_beaterOf 52 = .ok (.aload_n 3, 1) := by decide +kernel
theorem dX11_beaterOf_53 : decode cX11_beaterOf 53 = .ok (.getfield 315, 3) := by decide +kernel
theorem dX11_beaterOf_56 : decode cX11_beaterOf 56 = .ok (.iload_n 1, 1) := by decide +kernel
theorem dX11_beaterOf_57 : decode cX11_beaterOf 57 = .ok (.iaload, 1) := by decide +kernel
theorem dX11_beaterOf_58 : decode cX11_beaterOf 58 = .ok (.ireturn, 1) := by decide +kernel
theorem dX11_beaterOf_59 : decode cX11_beaterOf 59 = .ok (.aload_n 3, 1) := by decide +kernel
theorem dX11_beaterOf_60 : decode cX11_beaterOf 60 = .ok (.iload_n 1, 1) := by decide +kernel
theorem dX11_beaterOf_61 : decode cX11_beaterOf 61 = .ok (.invokevirtual 120, 3) := by decide +kernel
theorem dX11_beaterOf_64 : decode cX11_beaterOf 64 = .ok (.ifCond .eq 8, 3) := by decide +kernel
theorem dX11_beaterOf_67 : decode cX11_beaterOf 67 = .ok (.bipush (-9), 2) := by decide +kernel
theorem dX11_beaterOf_69 : decode cX11_beaterOf 69 = .ok (.goto 9, 3) := by decide +kernel
theorem dX11_beaterOf_72 : decode cX11_beaterOf 72 = .ok (.aload_n 3, 1) := by decide +kernel
theorem dX11_beaterOf_73 : decode cX11_beaterOf 73 = .ok (.getfield 316, 3) := by decide +kernel
theorem dX11_beaterOf_76 : decode cX11_beaterOf 76 = .ok (.iload_n 1, 1) := by decide +kernel
theorem dX11_beaterOf_77 : decode cX11_beaterOf 77 = .ok (.iaload, 1) := by decide +kernel
theorem dX11_beaterOf_78 : decode cX11_beaterOf 78 = .ok (.ireturn, 1) := by decide +kernel
theorem dX11_beaterOf_79 : decode cX11_beaterOf 79 = .ok (.aload_n 3, 1) := by decide +kernel
theorem dX11_beaterOf_80 : decode cX11_beaterOf 80 = .ok (.getfield 317, 3) := by decide +kernel
theorem dX11_beaterOf_83 : decode cX11_beaterOf 83 = .ok (.iload_n 1, 1) := by decide +kernel
theorem dX11_beaterOf_84 : decode cX11_beaterOf 84 = .ok (.iaload, 1) := by decide +kernel
theorem dX11_beaterOf_85 : decode cX11_beaterOf 85 = .ok (.ireturn, 1) := by decide +kernel
theorem dX11_beaterOf_86 : decode cX11_beaterOf 86 = .ok (.aload_n 3, 1) := by decide +kernel
theorem dX11_beaterOf_87 : decode cX11_beaterOf 87 = .ok (.getfield 320, 3) := by decide +kernel
theorem dX11_beaterOf_90 : decode cX11_beaterOf 90 = .ok (.iload_n 1, 1) := by decide +kernel
theorem dX11_beaterOf_91 : decode cX11_beaterOf 91 = .ok (.iaload, 1) := by decide +kernel
theorem dX11_beaterOf_92 : decode cX11_beaterOf 92 = .ok (.ireturn, 1) := by decide +kernel
theorem dX11_beaterOf_93 : decode cX11_beaterOf 93 = .ok (.aload_n 0, 1) := by decide +kernel
theorem dX11_beaterOf_94 : decode cX11_beaterOf 94 = .ok (.bipush (-2), 2) := by decide +kernel
theorem dX11_beaterOf_96 : decode cX11_beaterOf 96 = .ok (.invokevirtual 69, 3) := by decide +kernel
theorem dX11_beaterOf_99 : decode cX11_beaterOf 99 = .ok (.ireturn, 1) := by decide +kernel
theorem dX11_vatOf_0 : decode cX11_vatOf 0 = .ok (.iload_n 1, 1) := by decide +kernel
theorem dX11_vatOf_1 : decode cX11_vatOf 1 = .ok (.iconst 3, 1) := by decide +kernel
theorem dX11_vatOf_2 : decode cX11_vatOf 2 = .ok (.invokestatic 65, 3) := by decide +kernel
theorem dX11_vatOf_5 : decode cX11_vatOf 5 = .ok (.ifCond .ne 9, 3) := by decide +kernel
theorem dX11_vatOf_8 : decode cX11_vatOf 8 = .ok (.aload_n 0, 1) := by decide +kernel
theorem dX11_vatOf_9 : decode cX11_vatOf 9 = .ok (.iconst (-1), 1) := by decide +kernel
theorem dX11_vatOf_10 : decode cX11_vatOf 10 = .ok (.invokevirtual 69, 3) := by decide +kernel
theorem dX11_vatOf_13 : decode cX11_vatOf 13 = .ok (.ireturn, 1) := by decide +kernel
theorem dX11_vatOf_14 : decode cX11_vatOf 14 = .ok (.aload_n 0, 1) := by decide +kernel
theorem dX11_vatOf_15 : decode cX11_vatOf 15 = .ok (.getfield 28, 3) := by decide +kernel
theorem dX11_vatOf_18 : decode cX11_vatOf 18 = .ok (.getfield 157, 3) := by decide +kernel
theorem dX11_vatOf_21 : decode cX11_vatOf 21 = .ok (.astore_n 3, 1) := by decide +kernel
theorem dX11_vatOf_22 : decode cX11_vatOf 22 = .ok (.iload_n 2, 1) := by decide +kernel
theorem dX11_vatOf_23 : decode cX11_vatOf 23 = .ok (.tableswitch 57 0 3 #[29, 36, 43, 50], 29) := by decide +kernel
theorem dX11_vatOf_52 : decode cX11_vatOf 52 = .ok (.aload_n 3, 1) := by decide +kernel
theorem dX11_vatOf_53 : decode cX11_vatOf 53 = .ok (.getfield 181, 3) := by decide +kernel
theorem dX11_vatOf_56 : decode cX11_vatOf 56 = .ok (.iload_n 1, 1) := by decide +kernel
theorem dX11_vatOf_57 : decode cX11_vatOf 57 = .ok (.iaload, 1) := by decide +kernel
theorem dX11_vatOf_58 : decode cX11_vatOf 58 = .ok (.ireturn, 1) := by decide +kernel
theorem dX11_vatOf_59 : decode cX11_vatOf 59 = .ok (.aload_n 3, 1) := by decide +kernel
theorem dX11_vatOf_60 : decode cX11_vatOf 60 = .ok (.getfield 184, 3) := by decide +kernel
theorem dX11_vatOf_63 : decode cX11_vatOf 63 = .ok (.iload_n 1, 1) := by decide +kernel
theorem dX11_vatOf_64 : decode cX11_vatOf 64 = .ok (.iaload, 1) := by decide +kernel
theorem dX11_vatOf_65 : decode cX11_vatOf 65 = .ok (.ireturn, 1) := by decide +kernel
theorem dX11_vatOf_66 : decode cX11_vatOf 66 = .ok (.aload_n 3, 1) := by decide +kernel
theorem dX11_vatOf_67 : decode cX11_vatOf 67 = .ok (.getfield 175, 3) := by decide +kernel
theorem dX11_vatOf_70 : decode cX11_vatOf 70 = .ok (.iload_n 1, 1) := by decide +kernel
theorem dX11_vatOf_71 : decode cX11_vatOf 71 = .ok (.iaload, 1) := by decide +kernel
theorem dX11_vatOf_72 : decode cX11_vatOf 72 = .ok (.ireturn, 1) := by decide +kernel
theorem dX11_vatOf_73 : decode cX11_vatOf 73 = .ok (.aload_n 3, 1) := by decide +kernel
theorem dX11_vatOf_74 : decode cX11_vatOf 74 = .ok (.getfield 323, 3) := by decide +kernel
theorem dX11_vatOf_77 : decode cX11_vatOf 77 = .ok (.iload_n 1, 1) := by decide +kernel
theorem dX11_vatOf_78 : decode cX11_vatOf 78 = .ok (.iaload, 1) := by decide +kernel
theorem dX11_vatOf_79 : decode cX11_vatOf 79 = .ok (.ireturn, 1) := by decide +kernel
theorem dX11_vatOf_80 : decode cX11_vatOf 80 = .ok (.aload_n 0, 1) := by decide +kernel
theorem dX11_vatOf_81 : decode cX11_vatOf 81 = .ok (.bipush (-2), 2) := by decide +kernel
theorem dX11_vatOf_83 : decode cX11_vatOf 83 = .ok (.invokevirtual 69, 3) := by decide +kernel
theorem dX11_vatOf_86 : decode cX11_vatOf 86 = .ok (.ireturn, 1) := by decide +kernel
theorem dX11_postOf_0 : decode cX11_postOf 0 = .ok (.aload_n 0, 1) := by decide +kernel
theorem dX11_postOf_1 : decode cX11_postOf 1 = .ok (.getfield 28, 3) := by decide +kernel
theorem dX11_postOf_4 : decode cX11_postOf 4 = .ok (.getfield 44, 3) := by decide +kernel
theorem dX11_postOf_7 : decode cX11_postOf 7 = .ok (.astore_n 3, 1) := by decide +kernel
theorem dX11_postOf_8 : decode cX11_postOf 8 = .ok (.iload_n 1, 1) := by decide +kernel
theorem dX11_postOf_9 : decode cX11_postOf 9 = .ok (.aload_n 3, 1) := by decide +kernel
theorem dX11_postOf_10 : decode cX11_postOf 10 = .ok (.getfield 193, 3) := by decide +kernel
theorem dX11_postOf_13 : decode cX11_postOf 13 = .ok (.invokestatic 65, 3) := by decide +kernel
theorem dX11_postOf_16 : decode cX11_postOf 16 = .ok (.ifCond .ne 9, 3) := by decide +kernel
theorem dX11_postOf_19 : decode cX11_postOf 19 = .ok (.aload_n 0, 1) := by decide +kernel
theorem dX11_postOf_20 : decode cX11_postOf 20 = .ok (.iconst (-1), 1) := by decide +kernel
theorem dX11_postOf_21 : decode cX11_postOf 21 = .ok (.invokevirtual 69, 3) := by decide +kernel
theorem dX11_postOf_24 : decode cX11_postOf 24 = .ok (.ireturn, 1) := by decide +kernel
theorem dX11_postOf_25 : decode cX11_postOf 25 = .ok (.iload_n 2, 1) := by decide +kernel
theorem dX11_postOf_26 : decode cX11_postOf 26 = .ok (.tableswitch 101 0 7 #[46, 52, 59, 66, 73, 80, 87, 94], 46) := by decide +kernel
theorem dX11_postOf_72 : decode cX11_postOf 72 = .ok (.aload_n 3, 1) := by decide +kernel
theorem dX11_postOf_73 : decode cX11_postOf 73 = .ok (.iload_n 1, 1) := by decide +kernel
theorem dX11_postOf_74 : decode cX11_postOf 74 = .ok (.invokevirtual 196, 3) := by decide +kernel
theorem dX11_postOf_77 : decode cX11_postOf 77 = .ok (.ireturn, 1) := by decide +kernel
theorem dX11_postOf_78 : decode cX11_postOf 78 = .ok (.aload_n 3, 1) := by decide +kernel
theorem dX11_postOf_79 : decode cX11_postOf 79 = .ok (.getfield 298, 3) := by decide +kernel
theorem dX11_postOf_82 : decode cX11_postOf 82 = .ok (.iload_n 1, 1) := by decide +kernel
theorem dX11_postOf_83 : decode cX11_postOf 83 = .ok (.iaload, 1) := by decide +kernel
theorem dX11_postOf_84 : decode cX11_postOf 84 = .ok (.ireturn, 1) := by decide +kernel
theorem dX11_postOf_85 : decode cX11_postOf 85 = .ok (.aload_n 3, 1) := by decide +kernel
theorem dX11_postOf_86 : decode cX11_postOf 86 = .ok (.getfield 326, 3) := by decide +kernel
theorem dX11_postOf_89 : decode cX11_postOf 89 = .ok (.iload_n 1, 1) := by decide +kernel
theorem dX11_postOf_90 : decode cX11_postOf 90 = .ok (.iaload, 1) := by decide +kernel
theorem dX11_postOf_91 : decode cX11_postOf 91 = .ok (.ireturn, 1) := by decide +kernel
theorem dX11_postOf_92 : decode cX11_postOf 92 = .ok (.aload_n 3, 1) := by decide +kernel
theorem dX11_postOf_93 : decode cX11_postOf 93 = .ok (.getfield 302, 3) := by decide +kernel
theorem dX11_postOf_96 : decode cX11_postOf 96 = .ok (.iload_n 1, 1) := by decide +kernel
theorem dX11_postOf_97 : decode cX11_postOf 97 = .ok (.iaload, 1) := by decide +kernel
theorem dX11_postOf_98 : decode cX11_postOf 98 = .ok (.ireturn, 1) := by decide +kernel
theorem dX11_postOf_99 : decode cX11_postOf 99 = .ok (.aload_n 3, 1) := by decide +kernel
theorem dX11_postOf_100 : decode cX11_postOf 100 = .ok (.getfield 327, 3) := by decide +kernel
theorem dX11_postOf_103 : decode cX11_postOf 103 = .ok (.iload_n 1, 1) := by decide +kernel
theorem dX11_postOf_104 : decode cX11_postOf 104 = .ok (.iaload, 1) := by decide +kernel
theorem dX11_postOf_105 : decode cX11_postOf 105 = .ok (.ireturn, 1) := by decide +kernel
theorem dX11_postOf_106 : decode cX11_postOf 106 = .ok (.aload_n 3, 1) := by decide +kernel
theorem dX11_postOf_107 : decode cX11_postOf 107 = .ok (.getfield 330, 3) := by decide +kernel
theorem dX11_postOf_110 : decode cX11_postOf 110 = .ok (.iload_n 1, 1) := by decide +kernel
theorem dX11_postOf_111 : decode cX11_postOf 111 = .ok (.iaload, 1) := by decide +kernel
theorem dX11_postOf_112 : decode cX11_postOf 112 = .ok (.ireturn, 1) := by decide +kernel
theorem dX11_postOf_113 : decode cX11_postOf 113 = .ok (.aload_n 3, 1) := by decide +kernel
theorem dX11_postOf_114 : decode cX11_postOf 114 = .ok (.getfield 333, 3) := by decide +kernel
theorem dX11_postOf_117 : decode cX11_postOf 117 = .ok (.iload_n 1, 1) := by decide +kernel
theorem dX11_postOf_118 : decode cX11_postOf 118 = .ok (.iaload, 1) := by decide +kernel
theorem dX11_postOf_119 : decode cX11_postOf 119 = .ok (.ireturn, 1) := by decide +kernel
theorem dX11_postOf_120 : decode cX11_postOf 120 = .ok (.aload_n 3, 1) := by decide +kernel
theorem dX11_postOf_121 : decode cX11_postOf 121 = .ok (.getfield 336, 3) := by decide +kernel
theorem dX11_postOf_124 : decode cX11_postOf 124 = .ok (.iload_n 1, 1) := by decide +kernel
theorem dX11_postOf_125 : decode cX11_postOf 125 = .ok (.iaload, 1) := by decide +kernel
theorem dX11_postOf_126 : decode cX11_postOf 126 = .ok (.ireturn, 1) := by decide +kernel
theorem dX11_postOf_127 : decode cX11_postOf 127 = .ok (.aload_n 0, 1) := by decide +kernel
theorem dX11_postOf_128 : decode cX11_postOf 128 = .ok (.bipush (-2), 2) := by decide +kernel
theorem dX11_postOf_130 : decode cX11_postOf 130 = .ok (.invokevirtual 69, 3) := by decide +kernel
theorem dX11_postOf_133 : decode cX11_postOf 133 = .ok (.ireturn, 1) := by decide +kernel
theorem dX11_orderOf_0 : decode cX11_orderOf 0 = .ok (.iload_n 1, 1) := by decide +kernel
theorem dX11_orderOf_1 : decode cX11_orderOf 1 = .ok (.aload_n 0, 1) := by decide +kernel
theorem dX11_orderOf_2 : decode cX11_orderOf 2 = .ok (.getfield 38, 3) := by decide +kernel
theorem dX11_orderOf_5 : decode cX11_orderOf 5 = .ok (.getfield 205, 3) := by decide +kernel
theorem dX11_orderOf_8 : decode cX11_orderOf 8 = .ok (.invokestatic 65, 3) := by decide +kernel
theorem dX11_orderOf_11 : decode cX11_orderOf 11 = .ok (.ifCond .ne 9, 3) := by decide +kernel
theorem dX11_orderOf_14 : decode cX11_orderOf 14 = .ok (.aload_n 0, 1) := by decide +kernel
theorem dX11_orderOf_15 : decode cX11_orderOf 15 = .ok (.iconst (-1), 1) := by decide +kernel
theorem dX11_orderOf_16 : decode cX11_orderOf 16 = .ok (.invokevirtual 69, 3) := by decide +kernel
theorem dX11_orderOf_19 : decode cX11_orderOf 19 = .ok (.ireturn, 1) := by decide +kernel
theorem dX11_orderOf_20 : decode cX11_orderOf 20 = .ok (.iload_n 2, 1) := by decide +kernel
theorem dX11_orderOf_21 : decode cX11_orderOf 21 = .ok (.tableswitch 99 0 5 #[39, 49, 59, 69, 79, 89], 39) := by decide +kernel
theorem dX11_orderOf_60 : decode cX11_orderOf 60 = .ok (.aload_n 0, 1) := by decide +kernel
theorem dX11_orderOf_61 : decode cX11_orderOf 61 = .ok (.getfield 38, 3) := by decide +kernel
theorem dX11_orderOf_64 : decode cX11_orderOf 64 = .ok (.getfield 212, 3) := by decide +kernel
theorem dX11_orderOf_67 : decode cX11_orderOf 67 = .ok (.iload_n 1, 1) := by decide +kernel
theorem dX11_orderOf_68 : decode cX11_orderOf 68 = .ok (.iaload, 1) := by decide +kernel
theorem dX11_orderOf_69 : decode cX11_orderOf 69 = .ok (.ireturn, 1) := by decide +kernel
theorem dX11_orderOf_70 : decode cX11_orderOf 70 = .ok (.aload_n 0, 1) := by decide +kernel
theorem dX11_orderOf_71 : decode cX11_orderOf 71 = .ok (.getfield 38, 3) := by decide +kernel
theorem dX11_orderOf_74 : decode cX11_orderOf 74 = .ok (.getfield 213, 3) := by decide +kernel
theorem dX11_orderOf_77 : decode cX11_orderOf 77 = .ok (.iload_n 1, 1) := by decide +kernel
theorem dX11_orderOf_78 : decode cX11_orderOf 78 = .ok (.iaload, 1) := by decide +kernel
theorem dX11_orderOf_79 : decode cX11_orderOf 79 = .ok (.ireturn, 1) := by decide +kernel
theorem dX11_orderOf_80 : decode cX11_orderOf 80 = .ok (.aload_n 0, 1) := by decide +kernel
theorem dX11_orderOf_81 : decode cX11_orderOf 81 = .ok (.getfield 38, 3) := by decide +kernel
theorem dX11_orderOf_84 : decode cX11_orderOf 84 = .ok (.getfield 219, 3) := by decide +kernel
theorem dX11_orderOf_87 : decode cX11_orderOf 87 = .ok (.iload_n 1, 1) := by decide +kernel
theorem dX11_orderOf_88 : decode cX11_orderOf 88 = .ok (.iaload, 1) := by decide +kernel
theorem dX11_orderOf_89 : decode cX11_orderOf 89 = .ok (.ireturn, 1) := by decide +kernel
theorem dX11_orderOf_90 : decode cX11_orderOf 90 = .ok (.aload_n 0, 1) := by decide +kernel
theorem dX11_orderOf_91 : decode cX11_orderOf 91 = .ok (.getfield 38, 3) := by decide +kernel
theorem dX11_orderOf_94 : decode cX11_orderOf 94 = .ok (.getfield 339, 3) := by decide +kernel
theorem dX11_orderOf_97 : decode cX11_orderOf 97 = .ok (.iload_n 1, 1) := by decide +kernel
theorem dX11_orderOf_98 : decode cX11_orderOf 98 = .ok (.iaload, 1) := by decide +kernel
theorem dX11_orderOf_99 : decode cX11_orderOf 99 = .ok (.ireturn, 1) := by decide +kernel
theorem dX11_orderOf_100 : decode cX11_orderOf 100 = .ok (.aload_n 0, 1) := by decide +kernel
theorem dX11_orderOf_101 : decode cX11_orderOf 101 = .ok (.getfield 38, 3) := by decide +kernel
theorem dX11_orderOf_104 : decode cX11_orderOf 104 = .ok (.getfield 342, 3) := by decide +kernel
theorem dX11_orderOf_107 : decode cX11_orderOf 107 = .ok (.iload_n 1, 1) := by decide +kernel
theorem dX11_orderOf_108 : decode cX11_orderOf 108 = .ok (.iaload, 1) := by decide +kernel
theorem dX11_orderOf_109 : decode cX11_orderOf 109 = .ok (.ireturn, 1) := by decide +kernel
theorem dX11_orderOf_110 : decode cX11_orderOf 110 = .ok (.aload_n 0, 1) := by decide +kernel
theorem dX11_orderOf_111 : decode cX11_orderOf 111 = .ok (.getfield 38, 3) := by decide +kernel
theorem dX11_orderOf_114 : decode cX11_orderOf 114 = .ok (.getfield 225, 3) := by decide +kernel
theorem dX11_orderOf_117 : decode cX11_orderOf 117 = .ok (.iload_n 1, 1) := by decide +kernel
theorem dX11_orderOf_118 : decode cX11_orderOf 118 = .ok (.iaload, 1) := by decide +kernel
theorem dX11_orderOf_119 : decode cX11_orderOf 119 = .ok (.ireturn, 1) := by decide +kernel
theorem dX11_orderOf_120 : decode cX11_orderOf 120 = .ok (.aload_n 0, 1) := by decide +kernel
theorem dX11_orderOf_121 : decode cX11_orderOf 121 = .ok (.bipush (-2), 2) := by decide +kernel
theorem dX11_orderOf_123 : decode cX11_orderOf 123 = .ok (.invokevirtual 69, 3) := by decide +kernel
theorem dX11_orderOf_126 : decode cX11_orderOf 126 = .ok (.ireturn, 1) := by decide +kernel
theorem dX11_sheets_0 : decode cX11_sheets 0 = .ok (.iload_n 1, 1) := by decide +kernel
theorem dX11_sheets_1 : decode cX11_sheets 1 = .ok (.bipush 9, 2) := by decide +kernel
theorem dX11_sheets_3 : decode cX11_sheets 3 = .ok (.invokestatic 65, 3) := by decide +kernel
theorem dX11_sheets_6 : decode cX11_sheets 6 = .ok (.ifCond .eq 10, 3) := by decide +kernel
theorem dX11_sheets_9 : decode cX11_sheets 9 = .ok (.iload_n 2, 1) := by decide +kernel
theorem dX11_sheets_10 : decode cX11_sheets 10 = .ok (.invokestatic 139, 3) := by decide +kernel
theorem dX11_sheets_13 : decode cX11_sheets 13 = .ok (.ifCond .ne 9, 3) := by decide +kernel
theorem dX11_sheets_16 : decode cX11_sheets 16 = .ok (.aload_n 0, 1) := by decide +kernel
theorem dX11_sheets_17 : decode cX11_sheets 17 = .ok (.iconst (-1), 1) := by decide +kernel
theorem dX11_sheets_18 : decode cX11_sheets 18 = .ok (.invokevirtual 69, 3) := by decide +kernel
theorem dX11_sheets_21 : decode cX11_sheets 21 = .ok (.ireturn, 1) := by decide +kernel
theorem dX11_sheets_22 : decode cX11_sheets 22 = .ok (.aload_n 0, 1) := by decide +kernel
theorem dX11_sheets_23 : decode cX11_sheets 23 = .ok (.getfield 59, 3) := by decide +kernel
theorem dX11_sheets_26 : decode cX11_sheets 26 = .ok (.iload_n 1, 1) := by decide +kernel
theorem dX11_sheets_27 : decode cX11_sheets 27 = .ok (.iload_n 2, 1) := by decide +kernel
theorem dX11_sheets_28 : decode cX11_sheets 28 = .ok (.invokestatic 216, 3) := by decide +kernel
theorem dX11_sheets_31 : decode cX11_sheets 31 = .ok (.iaload, 1) := by decide +kernel
theorem dX11_sheets_32 : decode cX11_sheets 32 = .ok (.ireturn, 1) := by decide +kernel
theorem dX11_count_0 : decode cX11_count 0 = .ok (.iload_n 1, 1) := by decide +kernel
theorem dX11_count_1 : decode cX11_count 1 = .ok (.bipush 11, 2) := by decide +kernel
theorem dX11_count_3 : decode cX11_count 3 = .ok (.if_icmp .lt 19, 3) := by decide +kernel
theorem dX11_count_6 : decode cX11_count 6 = .ok (.iload_n 1, 1) := by decide +kernel
theorem dX11_count_7 : decode cX11_count 7 = .ok (.bipush 16, 2) := by decide +kernel
theorem dX11_count_9 : decode cX11_count 9 = .ok (.if_icmp .gt 13, 3) := by decide +kernel
theorem dX11_count_12 : decode cX11_count 12 = .ok (.aload_n 0, 1) := by decide +kernel
theorem dX11_count_13 : decode cX11_count 13 = .ok (.getfield 62, 3) := by decide +kernel
theorem dX11_count_16 : decode cX11_count 16 = .ok (.iload_n 1, 1) := by decide +kernel
theorem dX11_count_17 : decode cX11_count 17 = .ok (.bipush 10, 2) := by decide +kernel
theorem dX11_count_19 : decode cX11_count 19 = .ok (.isub, 1) := by decide +kernel
theorem dX11_count_20 : decode cX11_count 20 = .ok (.iaload, 1) := by decide +kernel
theorem dX11_count_21 : decode cX11_count 21 = .ok (.ireturn, 1) := by decide +kernel
theorem dX11_count_22 : decode cX11_count 22 = .ok (.iload_n 1, 1) := by decide +kernel
theorem dX11_count_23 : decode cX11_count 23 = .ok (.bipush 20, 2) := by decide +kernel
theorem dX11_count_25 : decode cX11_count 25 = .ok (.if_icmp .lt 22, 3) := by decide +kernel
theorem dX11_count_28 : decode cX11_count 28 = .ok (.iload_n 1, 1) := by decide +kernel
theorem dX11_count_29 : decode cX11_count 29 = .ok (.bipush 29, 2) := by decide +kernel
theorem dX11_count_31 : decode cX11_count 31 = .ok (.if_icmp .ge 16, 3) := by decide +kernel
theorem dX11_count_34 : decode cX11_count 34 = .ok (.aload_n 0, 1) := by decide +kernel
theorem dX11_count_35 : decode cX11_count 35 = .ok (.getfield 19, 3) := by decide +kernel
theorem dX11_count_38 : decode cX11_count 38 = .ok (.getfield 96, 3) := by decide +kernel
theorem dX11_count_41 : decode cX11_count 41 = .ok (.iload_n 1, 1) := by decide +kernel
theorem dX11_count_42 : decode cX11_count 42 = .ok (.bipush 20, 2) := by decide +kernel
theorem dX11_count_44 : decode cX11_count 44 = .ok (.isub, 1) := by decide +kernel
theorem dX11_count_45 : decode cX11_count 45 = .ok (.iaload, 1) := by decide +kernel
theorem dX11_count_46 : decode cX11_count 46 = .ok (.ireturn, 1) := by decide +kernel
theorem dX11_count_47 : decode cX11_count 47 = .ok (.iload_n 1, 1) := by decide +kernel
theorem dX11_count_48 : decode cX11_count 48 = .ok (.bipush 30, 2) := by decide +kernel
theorem dX11_count_50 : decode cX11_count 50 = .ok (.if_icmp .lt 22, 3) := by decide +kernel
theorem dX11_count_53 : decode cX11_count 53 = .ok (.iload_n 1, 1) := by decide +kernel
theorem dX11_count_54 : decode cX11_count 54 = .ok (.bipush 39, 2) := by decide +kernel
theorem dX11_count_56 : decode cX11_count 56 = .ok (.if_icmp .ge 16, 3) := by decide +kernel
theorem dX11_count_59 : decode cX11_count 59 = .ok (.aload_n 0, 1) := by decide +kernel
theorem dX11_count_60 : decode cX11_count 60 = .ok (.getfield 28, 3) := by decide +kernel
theorem dX11_count_63 : decode cX11_count 63 = .ok (.getfield 345, 3) := by decide +kernel
theorem dX11_count_66 : decode cX11_count 66 = .ok (.iload_n 1, 1) := by decide +kernel
theorem dX11_count_67 : decode cX11_count 67 = .ok (.bipush 30, 2) := by decide +kernel
theorem dX11_count_69 : decode cX11_count 69 = .ok (.isub, 1) := by decide +kernel
theorem dX11_count_70 : decode cX11_count 70 = .ok (.iaload, 1) := by decide +kernel
theorem dX11_count_71 : decode cX11_count 71 = .ok (.ireturn, 1) := by decide +kernel
theorem dX11_count_72 : decode cX11_count 72 = .ok (.iload_n 1, 1) := by decide +kernel
theorem dX11_count_73 : decode cX11_count 73 = .ok (.tableswitch 150 0 9 #[55, 63, 74, 85, 96, 104, 112, 117, 128, 139], 55) := by decide +kernel
theorem dX11_count_128 : decode cX11_count 128 = .ok (.aload_n 0, 1) := by decide +kernel
theorem dX11_count_129 : decode cX11_count 129 = .ok (.getfield 28, 3) := by decide +kernel
theorem dX11_count_132 : decode cX11_count 132 = .ok (.getfield 109, 3) := by decide +kernel
theorem dX11_count_135 : decode cX11_count 135 = .ok (.ireturn, 1) := by decide +kernel
theorem dX11_count_136 : decode cX11_count 136 = .ok (.aload_n 0, 1) := by decide +kernel
theorem dX11_count_137 : decode cX11_count 137 = .ok (.getfield 28, 3) := by decide +kernel
theorem dX11_count_140 : decode cX11_count 140 = .ok (.getfield 99, 3) := by decide +kernel
theorem dX11_count_143 : decode cX11_count 143 = .ok (.getfield 103, 3) := by decide +kernel
theorem dX11_count_146 : decode cX11_count 146 = .ok (.ireturn, 1) := by decide +kernel
theorem dX11_count_147 : decode cX11_count 147 = .ok (.aload_n 0, 1) := by decide +kernel
theorem dX11_count_148 : decode cX11_count 148 = .ok (.getfield 28, 3) := by decide +kernel
theorem dX11_count_151 : decode cX11_count 151 = .ok (.getfield 142, 3) := by decide +kernel
theorem dX11_count_154 : decode cX11_count 154 = .ok (.getfield 146, 3) := by decide +kernel
theorem dX11_count_157 : decode cX11_count 157 = .ok (.ireturn, 1) := by decide +kernel
theorem dX11_count_158 : decode cX11_count 158 = .ok (.aload_n 0, 1) := by decide +kernel
theorem dX11_count_159 : decode cX11_count 159 = .ok (.getfield 28, 3) := by decide +kernel
theorem dX11_count_162 : decode cX11_count 162 = .ok (.getfield 44, 3) := by decide +kernel
theorem dX11_count_165 : decode cX11_count 165 = .ok (.getfield 193, 3) := by decide +kernel
theorem dX11_count_168 : decode cX11_count 168 = .ok (.ireturn, 1) := by decide +kernel
theorem dX11_count_169 : decode cX11_count 169 = .ok (.aload_n 0, 1) := by decide +kernel
theorem dX11_count_170 : decode cX11_count 170 = .ok (.getfield 38, 3) := by decide +kernel
theorem dX11_count_173 : decode cX11_count 173 = .ok (.getfield 205, 3) := by decide +kernel
theorem dX11_count_176 : decode cX11_count 176 = .ok (.ireturn, 1) := by decide +kernel
theorem dX11_count_177 : decode cX11_count 177 = .ok (.aload_n 0, 1) := by decide +kernel
theorem dX11_count_178 : decode cX11_count 178 = .ok (.getfield 235, 3) := by decide +kernel
theorem dX11_count_181 : decode cX11_count 181 = .ok (.ldc 211, 2) := by decide +kernel
theorem dX11_count_183 : decode cX11_count 183 = .ok (.iadd, 1) := by decide +kernel
theorem dX11_count_184 : decode cX11_count 184 = .ok (.ireturn, 1) := by decide +kernel
theorem dX11_count_185 : decode cX11_count 185 = .ok (.aload_n 0, 1) := by decide +kernel
theorem dX11_count_186 : decode cX11_count 186 = .ok (.getfield 190, 3) := by decide +kernel
theorem dX11_count_189 : decode cX11_count 189 = .ok (.ireturn, 1) := by decide +kernel
theorem dX11_count_190 : decode cX11_count 190 = .ok (.aload_n 0, 1) := by decide +kernel
theorem dX11_count_191 : decode cX11_count 191 = .ok (.getfield 28, 3) := by decide +kernel
theorem dX11_count_194 : decode cX11_count 194 = .ok (.getfield 157, 3) := by decide +kernel
theorem dX11_count_197 : decode cX11_count 197 = .ok (.getfield 259, 3) := by decide +kernel
theorem dX11_count_200 : decode cX11_count 200 = .ok (.ireturn, 1) := by decide +kernel
theorem dX11_count_201 : decode cX11_count 201 = .ok (.aload_n 0, 1) := by decide +kernel
theorem dX11_count_202 : decode cX11_count 202 = .ok (.getfield 28, 3) := by decide +kernel
theorem dX11_count_205 : decode cX11_count 205 = .ok (.getfield 99, 3) := by decide +kernel
theorem dX11_count_208 : decode cX11_count 208 = .ok (.getfield 262, 3) := by decide +kernel
theorem dX11_count_211 : decode cX11_count 211 = .ok (.ireturn, 1) := by decide +kernel
theorem dX11_count_212 : decode cX11_count 212 = .ok (.aload_n 0, 1) := by decide +kernel
theorem dX11_count_213 : decode cX11_count 213 = .ok (.getfield 28, 3) := by decide +kernel
theorem dX11_count_216 : decode cX11_count 216 = .ok (.getfield 44, 3) := by decide +kernel
theorem dX11_count_219 : decode cX11_count 219 = .ok (.invokevirtual 348, 3) := by decide +kernel
theorem dX11_count_222 : decode cX11_count 222 = .ok (.ireturn, 1) := by decide +kernel
theorem dX11_count_223 : decode cX11_count 223 = .ok (.bipush (-9), 2) := by decide +kernel
theorem dX11_count_225 : decode cX11_count 225 = .ok (.ireturn, 1) := by decide +kernel
theorem dX11_refuse_0 : decode cX11_refuse 0 = .ok (.aload_n 0, 1) := by decide +kernel
theorem dX11_refuse_1 : decode cX11_refuse 1 = .ok (.getfield 62, 3) := by decide +kernel
theorem dX11_refuse_4 : decode cX11_refuse 4 = .ok (.iload_n 1, 1) := by decide +kernel
theorem dX11_refuse_5 : decode cX11_refuse 5 = .ok (.ineg, 1) := by decide +kernel
theorem dX11_refuse_6 : decode cX11_refuse 6 = .ok (.dup2, 1) := by decide +kernel
theorem dX11_refuse_7 : decode cX11_refuse 7 = .ok (.iaload, 1) := by decide +kernel
theorem dX11_refuse_8 : decode cX11_refuse 8 = .ok (.iconst 1, 1) := by decide +kernel
theorem dX11_refuse_9 : decode cX11_refuse 9 = .ok (.iadd, 1) := by decide +kernel
theorem dX11_refuse_10 : decode cX11_refuse 10 = .ok (.iastore, 1) := by decide +kernel
theorem dX11_refuse_11 : decode cX11_refuse 11 = .ok (.iload_n 1, 1) := by decide +kernel
theorem dX11_refuse_12 : decode cX11_refuse 12 = .ok (.ireturn, 1) := by decide +kernel
theorem dX11_sizePost_0 : decode cX11_sizePost 0 = .ok (.aload_n 0, 1) := by decide +kernel
theorem dX11_sizePost_1 : decode cX11_sizePost 1 = .ok (.dup, 1) := by decide +kernel
theorem dX11_sizePost_2 : decode cX11_sizePost 2 = .ok (.getfield 190, 3) := by decide +kernel
theorem dX11_sizePost_5 : decode cX11_sizePost 5 = .ok (.iconst 1, 1) := by decide +kernel
theorem dX11_sizePost_6 : decode cX11_sizePost 6 = .ok (.isub, 1) := by decide +kernel
theorem dX11_sizePost_7 : decode cX11_sizePost 7 = .ok (.putfield 190, 3) := by decide +kernel
theorem dX11_sizePost_10 : decode cX11_sizePost 10 = .ok (.aload_n 0, 1) := by decide +kernel
theorem dX11_sizePost_11 : decode cX11_sizePost 11 = .ok (.getfield 28, 3) := by decide +kernel
theorem dX11_sizePost_14 : decode cX11_sizePost 14 = .ok (.getfield 44, 3) := by decide +kernel
theorem dX11_sizePost_17 : decode cX11_sizePost 17 = .ok (.iload_n 1, 1) := by decide +kernel
theorem dX11_sizePost_18 : decode cX11_sizePost 18 = .ok (.invokevirtual 351, 3) := by decide +kernel
theorem dX11_sizePost_21 : decode cX11_sizePost 21 = .ok (.istore_n 2, 1) := by decide +kernel
theorem dX11_sizePost_22 : decode cX11_sizePost 22 = .ok (.aload_n 0, 1) := by decide +kernel
theorem dX11_sizePost_23 : decode cX11_sizePost 23 = .ok (.getfield 28, 3) := by decide +kernel
theorem dX11_sizePost_26 : decode cX11_sizePost 26 = .ok (.getfield 142, 3) := by decide +kernel
theorem dX11_sizePost_29 : decode cX11_sizePost 29 = .ok (.getfield 354, 3) := by decide +kernel
theorem dX11_sizePost_32 : decode cX11_sizePost 32 = .ok (.aload_n 0, 1) := by decide +kernel
theorem dX11_sizePost_33 : decode cX11_sizePost 33 = .ok (.getfield 28, 3) := by decide +kernel
theorem dX11_sizePost_36 : decode cX11_sizePost 36 = .ok (.getfield 44, 3) := by decide +kernel
theorem dX11_sizePost_39 : decode cX11_sizePost 39 = .ok (.getfield 298, 3) := by decide +kernel
theorem dX11_sizePost_42 : decode cX11_sizePost 42 = .ok (.iload_n 1, 1) := by decide +kernel
theorem dX11_sizePost_43 : decode cX11_sizePost 43 = .ok (.iaload, 1) := by decide +kernel
theorem dX11_sizePost_44 : decode cX11_sizePost 44 = .ok (.iaload, 1) := by decide +kernel
theorem dX11_sizePost_45 : decode cX11_sizePost 45 = .ok (.istore_n 3, 1) := by decide +kernel
theorem dX11_sizePost_46 : decode cX11_sizePost 46 = .ok (.aload_n 0, 1) := by decide +kernel
theorem dX11_sizePost_47 : decode cX11_sizePost 47 = .ok (.getfield 59, 3) := by decide +kernel
theorem dX11_sizePost_50 : decode cX11_sizePost 50 = .ok (.aload_n 0, 1) := by decide +kernel
theorem dX11_sizePost_51 : decode cX11_sizePost 51 = .ok (.getfield 28, 3) := by decide +kernel
theorem dX11_sizePost_54 : decode cX11_sizePost 54 = .ok (.getfield 44, 3) := by decide +kernel
theorem dX11_sizePost_57 : decode cX11_sizePost 57 = .ok (.getfield 326, 3) := by decide +kernel
theorem dX11_sizePost_60 : decode cX11_sizePost 60 = .ok (.iload_n 1, 1) := by decide +kernel
theorem dX11_sizePost_61 : decode cX11_sizePost 61 = .ok (.iaload, 1) := by decide +kernel
theorem dX11_sizePost_62 : decode cX11_sizePost 62 = .ok (.iload_n 3, 1) := by decide +kernel
theorem dX11_sizePost_63 : decode cX11_sizePost 63 = .ok (.invokestatic 216, 3) := by decide +kernel
theorem dX11_sizePost_66 : decode cX11_sizePost 66 = .ok (.dup2, 1) := by decide +kernel
theorem dX11_sizePost_67 : decode cX11_sizePost 67 = .ok (.iaload, 1) := by decide +kernel
theorem dX11_sizePost_68 : decode cX11_sizePost 68 = .ok (.iload_n 2, 1) := by decide +kernel
theorem dX11_sizePost_69 : decode cX11_sizePost 69 = .ok (.iadd, 1) := by decide +kernel
theorem dX11_sizePost_70 : decode cX11_sizePost 70 = .ok (.iastore, 1) := by decide +kernel
theorem dX11_sizePost_71 : decode cX11_sizePost 71 = .ok (.iload_n 2, 1) := by decide +kernel
theorem dX11_sizePost_72 : decode cX11_sizePost 72 = .ok (.ireturn, 1) := by decide +kernel
theorem dX11_planRefusal_0 : decode cX11_planRefusal 0 = .ok (.aload_n 0, 1) := by decide +kernel
theorem dX11_planRefusal_1 : decode cX11_planRefusal 1 = .ok (.getfield 38, 3) := by decide +kernel
theorem dX11_planRefusal_4 : decode cX11_planRefusal 4 = .ok (.invokevirtual 355, 3) := by decide +kernel
theorem dX11_planRefusal_7 : decode cX11_planRefusal 7 = .ok (.bipush 8, 2) := by decide +kernel
theorem dX11_planRefusal_9 : decode cX11_planRefusal 9 = .ok (.if_icmp .le 6, 3) := by decide +kernel
theorem dX11_planRefusal_12 : decode cX11_planRefusal 12 = .ok (.bipush (-3), 2) := by decide +kernel
theorem dX11_planRefusal_14 : decode cX11_planRefusal 14 = .ok (.ireturn, 1) := by decide +kernel
theorem dX11_planRefusal_15 : decode cX11_planRefusal 15 = .ok (.iload_n 1, 1) := by decide +kernel
theorem dX11_planRefusal_16 : decode cX11_planRefusal 16 = .ok (.iconst 1, 1) := by decide +kernel
theorem dX11_planRefusal_17 : decode cX11_planRefusal 17 = .ok (.if_icmp .ge 6, 3) := by decide +kernel
theorem dX11_planRefusal_20 : decode cX11_planRefusal 20 = .ok (.bipush (-4), 2) := by decide +kernel
theorem dX11_planRefusal_22 : decode cX11_planRefusal 22 = .ok (.ireturn, 1) := by decide +kernel
theorem dX11_planRefusal_23 : decode cX11_planRefusal 23 = .ok (.iload_n 1, 1) := by decide +kernel
theorem dX11_planRefusal_24 : decode cX11_planRefusal 24 = .ok (.sipush 9600, 3) := by decide +kernel
theorem dX11_planRefusal_27 : decode cX11_planRefusal 27 = .ok (.if_icmp .le 8, 3) := by decide +kernel
theorem dX11_planRefusal_30 : decode cX11_planRefusal 30 = .ok (.bipush (-6), 2) := by decide +kernel
theorem dX11_planRefusal_32 : decode cX11_planRefusal 32 = .ok (.goto 4, 3) := by decide +kernel
theorem dX11_planRefusal_35 : decode cX11_planRefusal 35 = .ok (.iconst 0, 1) := by decide +kernel
theorem dX11_planRefusal_36 : decode cX11_planRefusal 36 = .ok (.ireturn, 1) := by decide +kernel
theorem dX11_readOld_0 : decode cX11_readOld 0 = .ok (.iload_n 2, 1) := by decide +kernel
theorem dX11_readOld_1 : decode cX11_readOld 1 = .ok (.iconst (-1), 1) := by decide +kernel
theorem dX11_readOld_2 : decode cX11_readOld 2 = .ok (.if_icmp .lt 14, 3) := by decide +kernel
theorem dX11_readOld_5 : decode cX11_readOld 5 = .ok (.iload_n 3, 1) := by decide +kernel
theorem dX11_readOld_6 : decode cX11_readOld 6 = .ok (.iconst (-1), 1) := by decide +kernel
theorem dX11_readOld_7 : decode cX11_readOld 7 = .ok (.if_icmp .lt 9, 3) := by decide +kernel
theorem dX11_readOld_10 : decode cX11_readOld 10 = .ok (.iload 4, 2) := by decide +kernel
theorem dX11_readOld_12 : decode cX11_readOld 12 = .ok (.iconst (-1), 1) := by decide +kernel
theorem dX11_readOld_13 : decode cX11_readOld 13 = .ok (.if_icmp .ge 10, 3) := by decide +kernel
theorem dX11_readOld_16 : decode cX11_readOld 16 = .ok (.aload_n 0, 1) := by decide +kernel
theorem dX11_readOld_17 : decode cX11_readOld 17 = .ok (.bipush (-4), 2) := by decide +kernel
theorem dX11_readOld_19 : decode cX11_readOld 19 = .ok (.invokevirtual 69, 3) := by decide +kernel
theorem dX11_readOld_22 : decode cX11_readOld 22 = .ok (.ireturn, 1) := by decide +kernel
theorem dX11_readOld_23 : decode cX11_readOld 23 = .ok (.iload_n 2, 1) := by decide +kernel
theorem dX11_readOld_24 : decode cX11_readOld 24 = .ok (.bipush 99, 2) := by decide +kernel
theorem dX11_readOld_26 : decode cX11_readOld 26 = .ok (.if_icmp .gt 16, 3) := by decide +kernel
theorem dX11_readOld_29 : decode cX11_readOld 29 = .ok (.iload_n 3, 1) := by decide +kernel
theorem dX11_readOld_30 : decode cX11_readOld 30 = .ok (.bipush 99, 2) := by decide +kernel
theorem dX11_readOld_32 : decode cX11_readOld 32 = .ok (.if_icmp .gt 10, 3) := by decide +kernel
theorem dX11_readOld_35 : decode cX11_readOld 35 = .ok (.iload 4, 2) := by decide +kernel
theorem dX11_readOld_37 : decode cX11_readOld 37 = .ok (.bipush 99, 2) := by decide +kernel
theorem dX11_readOld_39 : decode cX11_readOld 39 = .ok (.if_icmp .le 10, 3) := by decide +kernel
theorem dX11_readOld_42 : decode cX11_readOld 42 = .ok (.aload_n 0, 1) := by decide +kernel
theorem dX11_readOld_43 : decode cX11_readOld 43 = .ok (.bipush (-6), 2) := by decide +kernel
theorem dX11_readOld_45 : decode cX11_readOld 45 = .ok (.invokevirtual 69, 3) := by decide +kernel
theorem dX11_readOld_48 : decode cX11_readOld 48 = .ok (.ireturn, 1) := by decide +kernel
theorem dX11_readOld_49 : decode cX11_readOld 49 = .ok (.aload_n 0, 1) := by decide +kernel
theorem dX11_readOld_50 : decode cX11_readOld 50 = .ok (.getfield 51, 3) := by decide +kernel
theorem dX11_readOld_53 : decode cX11_readOld 53 = .ok (.getfield 358, 3) := by decide +kernel
theorem dX11_readOld_56 : decode cX11_readOld 56 = .ok (.iload_n 1, 1) := by decide +kernel
theorem dX11_readOld_57 : decode cX11_readOld 57 = .ok (.iload_n 2, 1) := by decide +kernel
theorem dX11_readOld_58 : decode cX11_readOld 58 = .ok (.iastore, 1) := by decide +kernel
theorem dX11_readOld_59 : decode cX11_readOld 59 = .ok (.aload_n 0, 1) := by decide +kernel
theorem dX11_readOld_60 : decode cX11_readOld 60 = .ok (.getfield 51, 3) := by decide +kernel
theorem dX11_readOld_63 : decode cX11_readOld 63 = .ok (.getfield 358, 3) := by decide +kernel
theorem dX11_readOld_66 : decode cX11_readOld 66 = .ok (.iload_n 1, 1) := by decide +kernel
theorem dX11_readOld_67 : decode cX11_readOld 67 = .ok (.iconst 1, 1) := by decide +kernel
theorem dX11_readOld_68 : decode cX11_readOld 68 = .ok (.iadd, 1) := by decide +kernel
theorem dX11_readOld_69 : decode cX11_readOld 69 = .ok (.iload_n 3, 1) := by decide +kernel
theorem dX11_readOld_70 : decode cX11_readOld 70 = .ok (.iastore, 1) := by decide +kernel
theorem dX11_readOld_71 : decode cX11_readOld 71 = .ok (.aload_n 0, 1) := by decide +kernel
theorem dX11_readOld_72 : decode cX11_readOld 72 = .ok (.getfield 51, 3) := by decide +kernel
theorem dX11_readOld_75 : decode cX11_readOld 75 = .ok (.getfield 358, 3) := by decide +kernel
theorem dX11_readOld_78 : decode cX11_readOld 78 = .ok (.iload_n 1, 1) := by decide +kernel
theorem dX11_readOld_79 : decode cX11_readOld 79 = .ok (.iconst 2, 1) := by decide +kernel
theorem dX11_readOld_80 : decode cX11_readOld 80 = .ok (.iadd, 1) := by decide +kernel
theorem dX11_readOld_81 : decode cX11_readOld 81 = .ok (.iload 4, 2) := by decide +kernel
theorem dX11_readOld_83 : decode cX11_readOld 83 = .ok (.iastore, 1) := by decide +kernel
theorem dX11_readOld_84 : decode cX11_readOld 84 = .ok (.iconst 1, 1) := by decide +kernel
theorem dX11_readOld_85 : decode cX11_readOld 85 = .ok (.ireturn, 1) := by decide +kernel
theorem dX11_isMould_0 : decode cX11_isMould 0 = .ok (.iload_n 1, 1) := by decide +kernel
theorem dX11_isMould_1 : decode cX11_isMould 1 = .ok (.iconst 2, 1) := by decide +kernel
theorem dX11_isMould_2 : decode cX11_isMould 2 = .ok (.aload_n 0, 1) := by decide +kernel
theorem dX11_isMould_3 : decode cX11_isMould 3 = .ok (.getfield 28, 3) := by decide +kernel
theorem dX11_isMould_6 : decode cX11_isMould 6 = .ok (.getfield 142, 3) := by decide +kernel
theorem dX11_isMould_9 : decode cX11_isMould 9 = .ok (.getfield 146, 3) := by decide +kernel
theorem dX11_isMould_12 : decode cX11_isMould 12 = .ok (.imul, 1) := by decide +kernel
theorem dX11_isMould_13 : decode cX11_isMould 13 = .ok (.invokestatic 65, 3) := by decide +kernel
theorem dX11_isMould_16 : decode cX11_isMould 16 = .ok (.ireturn, 1) := by decide +kernel
theorem dX11_isNumber_0 : decode cX11_isNumber 0 = .ok (.iload_n 0, 1) := by decide +kernel
theorem dX11_isNumber_1 : decode cX11_isNumber 1 = .ok (.ifCond .lt 12, 3) := by decide +kernel
theorem dX11_isNumber_4 : decode cX11_isNumber 4 = .ok (.iload_n 0, 1) := by decide +kernel
theorem dX11_isNumber_5 : decode cX11_isNumber 5 = .ok (.iload_n 1, 1) := by decide +kernel
theorem dX11_isNumber_6 : decode cX11_isNumber 6 = .ok (.if_icmp .ge 7, 3) := by decide +kernel
theorem dX11_isNumber_9 : decode cX11_isNumber 9 = .ok (.iconst 1, 1) := by decide +kernel
theorem dX11_isNumber_10 : decode cX11_isNumber 10 = .ok (.goto 4, 3) := by decide +kernel
theorem dX11_isNumber_13 : decode cX11_isNumber 13 = .ok (.iconst 0, 1) := by decide +kernel
theorem dX11_isNumber_14 : decode cX11_isNumber 14 = .ok (.ireturn, 1) := by decide +kernel
theorem dX11_isWeight_0 : decode cX11_isWeight 0 = .ok (.iload_n 0, 1) := by decide +kernel
theorem dX11_isWeight_1 : decode cX11_isWeight 1 = .ok (.iconst 1, 1) := by decide +kernel
theorem dX11_isWeight_2 : decode cX11_isWeight 2 = .ok (.if_icmp .lt 13, 3) := by decide +kernel
theorem dX11_isWeight_5 : decode cX11_isWeight 5 = .ok (.iload_n 0, 1) := by decide +kernel
theorem dX11_isWeight_6 : decode cX11_isWeight 6 = .ok (.bipush 8, 2) := by decide +kernel
theorem dX11_isWeight_8 : decode cX11_isWeight 8 = .ok (.if_icmp .gt 7, 3) := by decide +kernel
theorem dX11_isWeight_11 : decode cX11_isWeight 11 = .ok (.iconst 1, 1) := by decide +kernel
theorem dX11_isWeight_12 : decode cX11_isWeight 12 = .ok (.goto 4, 3) := by decide +kernel
theorem dX11_isWeight_15 : decode cX11_isWeight 15 = .ok (.iconst 0, 1) := by decide +kernel
theorem dX11_isWeight_16 : decode cX11_isWeight 16 = .ok (.ireturn, 1) := by decide +kernel
theorem dX11_shelfOf_0 : decode cX11_shelfOf 0 = .ok (.iload_n 0, 1) := by decide +kernel
theorem dX11_shelfOf_1 : decode cX11_shelfOf 1 = .ok (.bipush 9, 2) := by decide +kernel
theorem dX11_shelfOf_3 : decode cX11_shelfOf 3 = .ok (.imul, 1) := by decide +kernel
theorem dX11_shelfOf_4 : decode cX11_shelfOf 4 = .ok (.iload_n 1, 1) := by decide +kernel
theorem dX11_shelfOf_5 : decode cX11_shelfOf 5 = .ok (.iadd, 1) := by decide +kernel
theorem dX11_shelfOf_6 : decode cX11_shelfOf 6 = .ok (.ireturn, 1) := by decide +kernel
theorem dX11_copyRow_0 : decode cX11_copyRow 0 = .ok (.aload_n 0, 1) := by decide +kernel
theorem dX11_copyRow_1 : decode cX11_copyRow 1 = .ok (.iconst 0, 1) := by decide +kernel
theorem dX11_copyRow_2 : decode cX11_copyRow 2 = .ok (.aload_n 1, 1) := by decide +kernel
theorem dX11_copyRow_3 : decode cX11_copyRow 3 = .ok (.iconst 0, 1) := by decide +kernel
theorem dX11_copyRow_4 : decode cX11_copyRow 4 = .ok (.aload_n 0, 1) := by decide +kernel
theorem dX11_copyRow_5 : decode cX11_copyRow 5 = .ok (.arraylength, 1) := by decide +kernel
theorem dX11_copyRow_6 : decode cX11_copyRow 6 = .ok (.aload_n 1, 1) := by decide +kernel
theorem dX11_copyRow_7 : decode cX11_copyRow 7 = .ok (.arraylength, 1) := by decide +kernel
theorem dX11_copyRow_8 : decode cX11_copyRow 8 = .ok (.invokestatic 268, 3) := by decide +kernel
theorem dX11_copyRow_11 : decode cX11_copyRow 11 = .ok (.invokestatic 360, 3) := by decide +kernel
theorem dX11_copyRow_14 : decode cX11_copyRow 14 = .ok (.return_, 1) := by decide +kernel
theorem dX12_init_0 : decode cX12_init 0 = .ok (.aload_n 0, 1) := by decide +kernel
theorem dX12_init_1 : decode cX12_init 1 = .ok (.invokespecial 1, 3) := by decide +kernel
theorem dX12_init_4 : decode cX12_init 4 = .ok (.aload_n 0, 1) := by decide +kernel
theorem dX12_init_5 : decode cX12_init 5 = .ok (.bipush 7, 2) := by decide +kernel
theorem dX12_init_7 : decode cX12_init 7 = .ok (.newarray .int, 2) := by decide +kernel
theorem dX12_init_9 : decode cX12_init 9 = .ok (.putfield 7, 3) := by decide +kernel
theorem dX12_init_12 : decode cX12_init 12 = .ok (.aload_n 0, 1) := by decide +kernel
theorem dX12_init_13 : decode cX12_init 13 = .ok (.sipush 303, 3) := by decide +kernel
theorem dX12_init_16 : decode cX12_init 16 = .ok (.newarray .int, 2) := by decide +kernel
theorem dX12_init_18 : decode cX12_init 18 = .ok (.putfield 13, 3) := by decide +kernel
theorem dX12_init_21 : decode cX12_init 21 = .ok (.aload_n 0, 1) := by decide +kernel
theorem dX12_init_22 : decode cX12_init 22 = .ok (.bipush 9, 2) := by decide +kernel
theorem dX12_init_24 : decode cX12_init 24 = .ok (.newarray .int, 2) := by decide +kernel
theorem dX12_init_26 : decode cX12_init 26 = .ok (.putfield 16, 3) := by decide +kernel
theorem dX12_init_29 : decode cX12_init 29 = .ok (.aload_n 0, 1) := by decide +kernel
theorem dX12_init_30 : decode cX12_init 30 = .ok (.bipush 9, 2) := by decide +kernel
theorem dX12_init_32 : decode cX12_init 32 = .ok (.newarray .int, 2) := by decide +kernel
theorem dX12_init_34 : decode cX12_init 34 = .ok (.putfield 19, 3) := by decide +kernel
theorem dX12_init_37 : decode cX12_init 37 = .ok (.aload_n 0, 1) := by decide +kernel
theorem dX12_init_38 : decode cX12_init 38 = .ok (.bipush 9, 2) := by decide +kernel
theorem dX12_init_40 : decode cX12_init 40 = .ok (.newarray .int, 2) := by decide +kernel
theorem dX12_init_42 : decode cX12_init 42 = .ok (.putfield 22, 3) := by decide +kernel
theorem dX12_init_45 : decode cX12_init 45 = .ok (.aload_n 0, 1) := by decide +kernel
theorem dX12_init_46 : decode cX12_init 46 = .ok (.bipush 9, 2) := by decide +kernel
theorem dX12_init_48 : decode cX12_init 48 = .ok (.newarray .int, 2) := by decide +kernel
theorem dX12_init_50 : decode cX12_init 50 = .ok (.putfield 25, 3) := by decide +kernel
theorem dX12_init_53 : decode cX12_init 53 = .ok (.aload_n 0, 1) := by decide +kernel
theorem dX12_init_54 : decode cX12_init 54 = .ok (.bipush 9, 2) := by decide +kernel
theorem dX12_init_56 : decode cX12_init 56 = .ok (.newarray .int, 2) := by decide +kernel
theorem dX12_init_58 : decode cX12_init 58 = .ok (.putfield 28, 3) := by decide +kernel
theorem dX12_init_61 : decode cX12_init 61 = .ok (.aload_n 0, 1) := by decide +kernel
theorem dX12_init_62 : decode cX12_init 62 = .ok (.bipush 81, 2) := by decide +kernel
theorem dX12_init_64 : decode cX12_init 64 = .ok (.newarray .int, 2) := by decide +kernel
theorem dX12_init_66 : decode cX12_init 66 = .ok (.putfield 31, 3) := by decide +kernel
theorem dX12_init_69 : decode cX12_init 69 = .ok (.aload_n 0, 1) := by decide +kernel
theorem dX12_init_70 : decode cX12_init 70 = .ok (.bipush 40, 2) := by decide +kernel
theorem dX12_init_72 : decode cX12_init 72 = .ok (.newarray .int, 2) := by decide +kernel
theorem dX12_init_74 : decode cX12_init 74 = .ok (.putfield 34, 3) := by decide +kernel
theorem dX12_init_77 : decode cX12_init 77 = .ok (.aload_n 0, 1) := by decide +kernel
theorem dX12_init_78 : decode cX12_init 78 = .ok (.bipush 40, 2) := by decide +kernel
theorem dX12_init_80 : decode cX12_init 80 = .ok (.newarray .int, 2) := by decide +kernel
theorem dX12_init_82 : decode cX12_init 82 = .ok (.putfield 37, 3) := by decide +kernel
theorem dX12_init_85 : decode cX12_init 85 = .ok (.aload_n 0, 1) := by decide +kernel
theorem dX12_init_86 : decode cX12_init 86 = .ok (.iconst 4, 1) := by decide +kernel
theorem dX12_init_87 : decode cX12_init 87 = .ok (.newarray .int, 2) := by decide +kernel
theorem dX12_init_89 : decode cX12_init 89 = .ok (.putfield 40, 3) := by decide +kernel
theorem dX12_init_92 : decode cX12_init 92 = .ok (.aload_n 0, 1) := by decide +kernel
theorem dX12_init_93 : decode cX12_init 93 = .ok (.bipush 48, 2) := by decide +kernel
theorem dX12_init_95 : decode cX12_init 95 = .ok (.newarray .int, 2) := by decide +kernel
theorem dX12_init_97 : decode cX12_init 97 = .ok (.putfield 43, 3) := by decide +kernel
theorem dX12_init_100 : decode cX12_init 100 = .ok (.aload_n 0, 1) := by decide +kernel
theorem dX12_init_101 : decode cX12_init 101 = .ok (.bipush 8, 2) := by decide +kernel
theorem dX12_init_103 : decode cX12_init 103 = .ok (.newarray .int, 2) := by decide +kernel
theorem dX12_init_105 : decode cX12_init 105 = .ok (.putfield 46, 3) := by decide +kernel
theorem dX12_init_108 : decode cX12_init 108 = .ok (.aload_n 0, 1) := by decide +kernel
theorem dX12_init_109 : decode cX12_init 109 = .ok (.iconst 3, 1) := by decide +kernel
theorem dX12_init_110 : decode cX12_init 110 = .ok (.newarray .int, 2) := by decide +kernel
theorem dX12_init_112 : decode cX12_init 112 = .ok (.dup, 1) := by decide +kernel
theorem dX12_init_113 : decode cX12_init 113 = .ok (.iconst 0, 1) := by decide +kernel
theorem dX12_init_114 : decode cX12_init 114 = .ok (.iconst (-1), 1) := by decide +kernel
theorem dX12_init_115 : decode cX12_init 115 = .ok (.iastore, 1) := by decide +kernel
theorem dX12_init_116 : decode cX12_init 116 = .ok (.dup, 1) := by decide +kernel
theorem dX12_init_117 : decode cX12_init 117 = .ok (.iconst 1, 1) := by decide +kernel
theorem dX12_init_118 : decode cX12_init 118 = .ok (.iconst (-1), 1) := by decide +kernel
theorem dX12_init_119 : decode cX12_init 119 = .ok (.iastore, 1) := by decide +kernel
theorem dX12_init_120 : decode cX12_init 120 = .ok (.dup, 1) := by decide +kernel
theorem dX12_init_121 : decode cX12_init 121 = .ok (.iconst 2, 1) := by decide +kernel
theorem dX12_init_122 : decode cX12_init 122 = .ok (.iconst (-1), 1) := by decide +kernel
theorem dX12_init_123 : decode cX12_init 123 = .ok (.iastore, 1) := by decide +kernel
theorem dX12_init_124 : decode cX12_init 124 = .ok (.putfield 49, 3) := by decide +kernel
theorem dX12_init_127 : decode cX12_init 127 = .ok (.aload_n 0, 1) := by decide +kernel
theorem dX12_init_128 : decode cX12_init 128 = .ok (.iconst 3, 1) := by decide +kernel
theorem dX12_init_129 : decode cX12_init 129 = .ok (.newarray .int, 2) := by decide +kernel
theorem dX12_init_131 : decode cX12_init 131 = .ok (.putfield 52, 3) := by decide +kernel
theorem dX12_init_134 : decode cX12_init 134 = .ok (.aload_n 0, 1) := by decide +kernel
theorem dX12_init_135 : decode cX12_init 135 = .ok (.bipush 10, 2) := by decide +kernel
theorem dX12_init_137 : decode cX12_init 137 = .ok (.putfield 55, 3) := by decide +kernel
theorem dX12_init_140 : decode cX12_init 140 = .ok (.aload_n 0, 1) := by decide +kernel
theorem dX12_init_141 : decode cX12_init 141 = .ok (.bipush 12, 2) := by decide +kernel
theorem dX12_init_143 : decode cX12_init 143 = .ok (.newarray .int, 2) := by decide +kernel
theorem dX12_init_145 : decode cX12_init 145 = .ok (.putfield 59, 3) := by decide +kernel
theorem dX12_init_148 : decode cX12_init 148 = .ok (.aload_n 0, 1) := by decide +kernel
theorem dX12_init_149 : decode cX12_init 149 = .ok (.bipush 12, 2) := by decide +kernel
theorem dX12_init_151 : decode cX12_init 151 = .ok (.newarray .int, 2) := by decide +kernel
theorem dX12_init_153 : decode cX12_init 153 = .ok (.putfield 62, 3) := by decide +kernel
theorem dX12_init_156 : decode cX12_init 156 = .ok (.aload_n 0, 1) := by decide +kernel
theorem dX12_init_157 : decode cX12_init 157 = .ok (.bipush 12, 2) := by decide +kernel
theorem dX12_init_159 : decode cX12_init 159 = .ok (.newarray .int, 2) := by decide +kernel
theorem dX12_init_161 : decode cX12_init 161 = .ok (.putfield 65, 3) := by decide +kernel
theorem dX12_init_164 : decode cX12_init 164 = .ok (.aload_n 0, 1) := by decide +kernel
theorem dX12_init_165 : decode cX12_init 165 = .ok (.bipush 12, 2) := by decide +kernel
theorem dX12_init_167 : decode cX12_init 167 = .ok (.newarray .int, 2) := by decide +kernel
theorem dX12_init_169 : decode cX12_init 169 = .ok (.putfield 68, 3) := by decide +kernel
theorem dX12_init_172 : decode cX12_init 172 = .ok (.aload_n 0, 1) := by decide +kernel
