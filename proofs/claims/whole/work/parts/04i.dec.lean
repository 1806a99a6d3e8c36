theorem dX12_wire_2 : decode cX12_wire 2 = .ok (.aload_n 0, 1) := by decide +kernel
theorem dX12_wire_3 : decode cX12_wire 3 = .ok (.getfield 129, 3) := by decide +kernel
theorem dX12_wire_6 : decode cX12_wire 6 = .ok (.imul, 1) := by decide +kernel
theorem dX12_wire_7 : decode cX12_wire 7 = .ok (.invokestatic 95, 3) := by decide +kernel
theorem dX12_wire_10 : decode cX12_wire 10 = .ok (.ifCond .eq 12, 3) := by decide +kernel
theorem dX12_wire_13 : decode cX12_wire 13 = .ok (.iload_n 2, 1) := by decide +kernel
theorem dX12_wire_14 : decode cX12_wire 14 = .ok (.bipush 6, 2) := by decide +kernel
theorem dX12_wire_16 : decode cX12_wire 16 = .ok (.invokestatic 95, 3) := by decide +kernel
theorem dX12_wire_19 : decode cX12_wire 19 = .ok (.ifCond .ne 9, 3) := by decide +kernel
theorem dX12_wire_22 : decode cX12_wire 22 = .ok (.aload_n 0, 1) := by decide +kernel
theorem dX12_wire_23 : decode cX12_wire 23 = .ok (.iconst (-1), 1) := by decide +kernel
theorem dX12_wire_24 : decode cX12_wire 24 = .ok (.invokevirtual 103, 3) := by decide +kernel
theorem dX12_wire_27 : decode cX12_wire 27 = .ok (.ireturn, 1) := by decide +kernel
theorem dX12_wire_28 : decode cX12_wire 28 = .ok (.aload_n 0, 1) := by decide +kernel
theorem dX12_wire_29 : decode cX12_wire 29 = .ok (.iload_n 1, 1) := by decide +kernel
theorem dX12_wire_30 : decode cX12_wire 30 = .ok (.iconst 2, 1) := by decide +kernel
theorem dX12_wire_31 : decode cX12_wire 31 = .ok (.idiv, 1) := by decide +kernel
theorem dX12_wire_32 : decode cX12_wire 32 = .ok (.invokevirtual 132, 3) := by decide +kernel
theorem dX12_wire_35 : decode cX12_wire 35 = .ok (.ifCond .eq 10, 3) := by decide +kernel
theorem dX12_wire_38 : decode cX12_wire 38 = .ok (.aload_n 0, 1) := by decide +kernel
theorem dX12_wire_39 : decode cX12_wire 39 = .ok (.bipush (-3), 2) := by decide +kernel
theorem dX12_wire_41 : decode cX12_wire 41 = .ok (.invokevirtual 103, 3) := by decide +kernel
theorem dX12_wire_44 : decode cX12_wire 44 = .ok (.ireturn, 1) := by decide +kernel
theorem dX12_wire_45 : decode cX12_wire 45 = .ok (.iload_n 3, 1) := by decide +kernel
theorem dX12_wire_46 : decode cX12_wire 46 = .ok (.iconst 0, 1) := by decide +kernel
theorem dX12_wire_47 : decode cX12_wire 47 = .ok (.bipush 99, 2) := by decide +kernel
theorem dX12_wire_49 : decode cX12_wire 49 = .ok (.invokestatic 99, 3) := by decide +kernel
theorem dX12_wire_52 : decode cX12_wire 52 = .ok (.istore 4, 2) := by decide +kernel
theorem dX12_wire_54 : decode cX12_wire 54 = .ok (.iload 4, 2) := by decide +kernel
theorem dX12_wire_56 : decode cX12_wire 56 = .ok (.ifCond .eq 10, 3) := by decide +kernel
theorem dX12_wire_59 : decode cX12_wire 59 = .ok (.aload_n 0, 1) := by decide +kernel
theorem dX12_wire_60 : decode cX12_wire 60 = .ok (.iload 4, 2) := by decide +kernel
theorem dX12_wire_62 : decode cX12_wire 62 = .ok (.invokevirtual 103, 3) := by decide +kernel
theorem dX12_wire_65 : decode cX12_wire 65 = .ok (.ireturn, 1) := by decide +kernel
theorem dX12_wire_66 : decode cX12_wire 66 = .ok (.aload_n 0, 1) := by decide +kernel
theorem dX12_wire_67 : decode cX12_wire 67 = .ok (.getfield 43, 3) := by decide +kernel
theorem dX12_wire_70 : decode cX12_wire 70 = .ok (.bipush 6, 2) := by decide +kernel
theorem dX12_wire_72 : decode cX12_wire 72 = .ok (.iload_n 1, 1) := by decide +kernel
theorem dX12_wire_73 : decode cX12_wire 73 = .ok (.imul, 1) := by decide +kernel
theorem dX12_wire_74 : decode cX12_wire 74 = .ok (.iload_n 2, 1) := by decide +kernel
theorem dX12_wire_75 : decode cX12_wire 75 = .ok (.iadd, 1) := by decide +kernel
theorem dX12_wire_76 : decode cX12_wire 76 = .ok (.iaload, 1) := by decide +kernel
theorem dX12_wire_77 : decode cX12_wire 77 = .ok (.istore 5, 2) := by decide +kernel
theorem dX12_wire_79 : decode cX12_wire 79 = .ok (.aload_n 0, 1) := by decide +kernel
theorem dX12_wire_80 : decode cX12_wire 80 = .ok (.getfield 43, 3) := by decide +kernel
theorem dX12_wire_83 : decode cX12_wire 83 = .ok (.bipush 6, 2) := by decide +kernel
theorem dX12_wire_85 : decode cX12_wire 85 = .ok (.iload_n 1, 1) := by decide +kernel
theorem dX12_wire_86 : decode cX12_wire 86 = .ok (.imul, 1) := by decide +kernel
theorem dX12_wire_87 : decode cX12_wire 87 = .ok (.iload_n 2, 1) := by decide +kernel
theorem dX12_wire_88 : decode cX12_wire 88 = .ok (.iadd, 1) := by decide +kernel
theorem dX12_wire_89 : decode cX12_wire 89 = .ok (.iload_n 3, 1) := by decide +kernel
theorem dX12_wire_90 : decode cX12_wire 90 = .ok (.iastore, 1) := by decide +kernel
theorem dX12_wire_91 : decode cX12_wire 91 = .ok (.iload 5, 2) := by decide +kernel
theorem dX12_wire_93 : decode cX12_wire 93 = .ok (.ireturn, 1) := by decide +kernel
theorem dX12_mouldOf_0 : decode cX12_mouldOf 0 = .ok (.iload_n 1, 1) := by decide +kernel
theorem dX12_mouldOf_1 : decode cX12_mouldOf 1 = .ok (.iconst 2, 1) := by decide +kernel
theorem dX12_mouldOf_2 : decode cX12_mouldOf 2 = .ok (.aload_n 0, 1) := by decide +kernel
theorem dX12_mouldOf_3 : decode cX12_mouldOf 3 = .ok (.getfield 129, 3) := by decide +kernel
theorem dX12_mouldOf_6 : decode cX12_mouldOf 6 = .ok (.imul, 1) := by decide +kernel
theorem dX12_mouldOf_7 : decode cX12_mouldOf 7 = .ok (.invokestatic 95, 3) := by decide +kernel
theorem dX12_mouldOf_10 : decode cX12_mouldOf 10 = .ok (.ifCond .ne 9, 3) := by decide +kernel
theorem dX12_mouldOf_13 : decode cX12_mouldOf 13 = .ok (.aload_n 0, 1) := by decide +kernel
theorem dX12_mouldOf_14 : decode cX12_mouldOf 14 = .ok (.iconst (-1), 1) := by decide +kernel
theorem dX12_mouldOf_15 : decode cX12_mouldOf 15 = .ok (.invokevirtual 103, 3) := by decide +kernel
theorem dX12_mouldOf_18 : decode cX12_mouldOf 18 = .ok (.ireturn, 1) := by decide +kernel
theorem dX12_mouldOf_19 : decode cX12_mouldOf 19 = .ok (.iload_n 2, 1) := by decide +kernel
theorem dX12_mouldOf_20 : decode cX12_mouldOf 20 = .ok (.bipush 7, 2) := by decide +kernel
theorem dX12_mouldOf_22 : decode cX12_mouldOf 22 = .ok (.invokestatic 95, 3) := by decide +kernel
theorem dX12_mouldOf_25 : decode cX12_mouldOf 25 = .ok (.ifCond .ne 10, 3) := by decide +kernel
theorem dX12_mouldOf_28 : decode cX12_mouldOf 28 = .ok (.aload_n 0, 1) := by decide +kernel
theorem dX12_mouldOf_29 : decode cX12_mouldOf 29 = .ok (.bipush (-2), 2) := by decide +kernel
theorem dX12_mouldOf_31 : decode cX12_mouldOf 31 = .ok (.invokevirtual 103, 3) := by decide +kernel
theorem dX12_mouldOf_34 : decode cX12_mouldOf 34 = .ok (.ireturn, 1) := by decide +kernel
theorem dX12_mouldOf_35 : decode cX12_mouldOf 35 = .ok (.iload_n 2, 1) := by decide +kernel
theorem dX12_mouldOf_36 : decode cX12_mouldOf 36 = .ok (.bipush 6, 2) := by decide +kernel
theorem dX12_mouldOf_38 : decode cX12_mouldOf 38 = .ok (.if_icmp .ne 12, 3) := by decide +kernel
theorem dX12_mouldOf_41 : decode cX12_mouldOf 41 = .ok (.aload_n 0, 1) := by decide +kernel
theorem dX12_mouldOf_42 : decode cX12_mouldOf 42 = .ok (.getfield 46, 3) := by decide +kernel
theorem dX12_mouldOf_45 : decode cX12_mouldOf 45 = .ok (.iload_n 1, 1) := by decide +kernel
theorem dX12_mouldOf_46 : decode cX12_mouldOf 46 = .ok (.iaload, 1) := by decide +kernel
theorem dX12_mouldOf_47 : decode cX12_mouldOf 47 = .ok (.goto 14, 3) := by decide +kernel
theorem dX12_mouldOf_50 : decode cX12_mouldOf 50 = .ok (.aload_n 0, 1) := by decide +kernel
theorem dX12_mouldOf_51 : decode cX12_mouldOf 51 = .ok (.getfield 43, 3) := by decide +kernel
theorem dX12_mouldOf_54 : decode cX12_mouldOf 54 = .ok (.bipush 6, 2) := by decide +kernel
theorem dX12_mouldOf_56 : decode cX12_mouldOf 56 = .ok (.iload_n 1, 1) := by decide +kernel
theorem dX12_mouldOf_57 : decode cX12_mouldOf 57 = .ok (.imul, 1) := by decide +kernel
theorem dX12_mouldOf_58 : decode cX12_mouldOf 58 = .ok (.iload_n 2, 1) := by decide +kernel
theorem dX12_mouldOf_59 : decode cX12_mouldOf 59 = .ok (.iadd, 1) := by decide +kernel
theorem dX12_mouldOf_60 : decode cX12_mouldOf 60 = .ok (.iaload, 1) := by decide +kernel
theorem dX12_mouldOf_61 : decode cX12_mouldOf 61 = .ok (.ireturn, 1) := by decide +kernel
theorem dX12_vat_0 : decode cX12_vat 0 = .ok (.iload_n 1, 1) := by decide +kernel
theorem dX12_vat_1 : decode cX12_vat 1 = .ok (.iconst 3, 1) := by decide +kernel
theorem dX12_vat_2 : decode cX12_vat 2 = .ok (.invokestatic 95, 3) := by decide +kernel
theorem dX12_vat_5 : decode cX12_vat 5 = .ok (.ifCond .eq 19, 3) := by decide +kernel
theorem dX12_vat_8 : decode cX12_vat 8 = .ok (.iload_n 2, 1) := by decide +kernel
theorem dX12_vat_9 : decode cX12_vat 9 = .ok (.iconst (-1), 1) := by decide +kernel
theorem dX12_vat_10 : decode cX12_vat 10 = .ok (.if_icmp .eq 20, 3) := by decide +kernel
theorem dX12_vat_13 : decode cX12_vat 13 = .ok (.iload_n 2, 1) := by decide +kernel
theorem dX12_vat_14 : decode cX12_vat 14 = .ok (.aload_n 0, 1) := by decide +kernel
theorem dX12_vat_15 : decode cX12_vat 15 = .ok (.getfield 129, 3) := by decide +kernel
theorem dX12_vat_18 : decode cX12_vat 18 = .ok (.invokestatic 95, 3) := by decide +kernel
theorem dX12_vat_21 : decode cX12_vat 21 = .ok (.ifCond .ne 9, 3) := by decide +kernel
theorem dX12_vat_24 : decode cX12_vat 24 = .ok (.aload_n 0, 1) := by decide +kernel
theorem dX12_vat_25 : decode cX12_vat 25 = .ok (.iconst (-1), 1) := by decide +kernel
theorem dX12_vat_26 : decode cX12_vat 26 = .ok (.invokevirtual 103, 3) := by decide +kernel
theorem dX12_vat_29 : decode cX12_vat 29 = .ok (.ireturn, 1) := by decide +kernel
theorem dX12_vat_30 : decode cX12_vat 30 = .ok (.aload_n 0, 1) := by decide +kernel
theorem dX12_vat_31 : decode cX12_vat 31 = .ok (.getfield 86, 3) := by decide +kernel
theorem dX12_vat_34 : decode cX12_vat 34 = .ok (.bipush 105, 2) := by decide +kernel
theorem dX12_vat_36 : decode cX12_vat 36 = .ok (.iconst 2, 1) := by decide +kernel
theorem dX12_vat_37 : decode cX12_vat 37 = .ok (.iload_n 1, 1) := by decide +kernel
theorem dX12_vat_38 : decode cX12_vat 38 = .ok (.imul, 1) := by decide +kernel
theorem dX12_vat_39 : decode cX12_vat 39 = .ok (.iadd, 1) := by decide +kernel
theorem dX12_vat_40 : decode cX12_vat 40 = .ok (.iaload, 1) := by decide +kernel
theorem dX12_vat_41 : decode cX12_vat 41 = .ok (.ifCond .le 7, 3) := by decide +kernel
theorem dX12_vat_44 : decode cX12_vat 44 = .ok (.iconst 1, 1) := by decide +kernel
theorem dX12_vat_45 : decode cX12_vat 45 = .ok (.goto 4, 3) := by decide +kernel
theorem dX12_vat_48 : decode cX12_vat 48 = .ok (.iconst 0, 1) := by decide +kernel
theorem dX12_vat_49 : decode cX12_vat 49 = .ok (.istore_n 3, 1) := by decide +kernel
theorem dX12_vat_50 : decode cX12_vat 50 = .ok (.iconst 0, 1) := by decide +kernel
theorem dX12_vat_51 : decode cX12_vat 51 = .ok (.istore 4, 2) := by decide +kernel
theorem dX12_vat_53 : decode cX12_vat 53 = .ok (.iload 4, 2) := by decide +kernel
theorem dX12_vat_55 : decode cX12_vat 55 = .ok (.iconst 3, 1) := by decide +kernel
theorem dX12_vat_56 : decode cX12_vat 56 = .ok (.if_icmp .ge 40, 3) := by decide +kernel
theorem dX12_vat_59 : decode cX12_vat 59 = .ok (.iload_n 3, 1) := by decide +kernel
theorem dX12_vat_60 : decode cX12_vat 60 = .ok (.ifCond .ne 24, 3) := by decide +kernel
theorem dX12_vat_63 : decode cX12_vat 63 = .ok (.iload 4, 2) := by decide +kernel
theorem dX12_vat_65 : decode cX12_vat 65 = .ok (.iload_n 1, 1) := by decide +kernel
theorem dX12_vat_66 : decode cX12_vat 66 = .ok (.if_icmp .eq 22, 3) := by decide +kernel
theorem dX12_vat_69 : decode cX12_vat 69 = .ok (.iload_n 2, 1) := by decide +kernel
theorem dX12_vat_70 : decode cX12_vat 70 = .ok (.ifCond .lt 18, 3) := by decide +kernel
theorem dX12_vat_73 : decode cX12_vat 73 = .ok (.aload_n 0, 1) := by decide +kernel
theorem dX12_vat_74 : decode cX12_vat 74 = .ok (.getfield 49, 3) := by decide +kernel
theorem dX12_vat_77 : decode cX12_vat 77 = .ok (.iload 4, 2) := by decide +kernel
theorem dX12_vat_79 : decode cX12_vat 79 = .ok (.iaload, 1) := by decide +kernel
theorem dX12_vat_80 : decode cX12_vat 80 = .ok (.iload_n 2, 1) := by decide +kernel
theorem dX12_vat_81 : decode cX12_vat 81 = .ok (.if_icmp .ne 7, 3) := by decide +kernel
theorem dX12_vat_84 : decode cX12_vat 84 = .ok (.iconst 1, 1) := by decide +kernel
theorem dX12_vat_85 : decode cX12_vat 85 = .ok (.goto 4, 3) := by decide +kernel
theorem dX12_vat_88 : decode cX12_vat 88 = .ok (.iconst 0, 1) := by decide +kernel
theorem dX12_vat_89 : decode cX12_vat 89 = .ok (.istore_n 3, 1) := by decide +kernel
theorem dX12_vat_90 : decode cX12_vat 90 = .ok (.iinc 4 1, 3) := by decide +kernel
theorem dX12_vat_93 : decode cX12_vat 93 = .ok (.goto (-40), 3) := by decide +kernel
theorem dX12_vat_96 : decode cX12_vat 96 = .ok (.iload_n 3, 1) := by decide +kernel
theorem dX12_vat_97 : decode cX12_vat 97 = .ok (.ifCond .eq 10, 3) := by decide +kernel
theorem dX12_vat_100 : decode cX12_vat 100 = .ok (.aload_n 0, 1) := by decide +kernel
theorem dX12_vat_101 : decode cX12_vat 101 = .ok (.bipush (-3), 2) := by decide +kernel
theorem dX12_vat_103 : decode cX12_vat 103 = .ok (.invokevirtual 103, 3) := by decide +kernel
theorem dX12_vat_106 : decode cX12_vat 106 = .ok (.ireturn, 1) := by decide +kernel
theorem dX12_vat_107 : decode cX12_vat 107 = .ok (.aload_n 0, 1) := by decide +kernel
theorem dX12_vat_108 : decode cX12_vat 108 = .ok (.getfield 49, 3) := by decide +kernel
theorem dX12_vat_111 : decode cX12_vat 111 = .ok (.iload_n 1, 1) := by decide +kernel
theorem dX12_vat_112 : decode cX12_vat 112 = .ok (.iload_n 2, 1) := by decide +kernel
theorem dX12_vat_113 : decode cX12_vat 113 = .ok (.iastore, 1) := by decide +kernel
theorem dX12_vat_114 : decode cX12_vat 114 = .ok (.iconst 1, 1) := by decide +kernel
theorem dX12_vat_115 : decode cX12_vat 115 = .ok (.ireturn, 1) := by decide +kernel
theorem dX12_furnish_0 : decode cX12_furnish 0 = .ok (.iload_n 1, 1) := by decide +kernel
theorem dX12_furnish_1 : decode cX12_furnish 1 = .ok (.iconst 3, 1) := by decide +kernel
theorem dX12_furnish_2 : decode cX12_furnish 2 = .ok (.invokestatic 95, 3) := by decide +kernel
theorem dX12_furnish_5 : decode cX12_furnish 5 = .ok (.ifCond .eq 11, 3) := by decide +kernel
theorem dX12_furnish_8 : decode cX12_furnish 8 = .ok (.aload_n 0, 1) := by decide +kernel
theorem dX12_furnish_9 : decode cX12_furnish 9 = .ok (.iload_n 2, 1) := by decide +kernel
theorem dX12_furnish_10 : decode cX12_furnish 10 = .ok (.invokevirtual 111, 3) := by decide +kernel
theorem dX12_furnish_13 : decode cX12_furnish 13 = .ok (.ifCond .ne 9, 3) := by decide +kernel
theorem dX12_furnish_16 : decode cX12_furnish 16 = .ok (.aload_n 0, 1) := by decide +kernel
theorem dX12_furnish_17 : decode cX12_furnish 17 = .ok (.iconst (-1), 1) := by decide +kernel
theorem dX12_furnish_18 : decode cX12_furnish 18 = .ok (.invokevirtual 103, 3) := by decide +kernel
theorem dX12_furnish_21 : decode cX12_furnish 21 = .ok (.ireturn, 1) := by decide +kernel
theorem dX12_furnish_22 : decode cX12_furnish 22 = .ok (.aload_n 0, 1) := by decide +kernel
theorem dX12_furnish_23 : decode cX12_furnish 23 = .ok (.getfield 52, 3) := by decide +kernel
theorem dX12_furnish_26 : decode cX12_furnish 26 = .ok (.iload_n 1, 1) := by decide +kernel
theorem dX12_furnish_27 : decode cX12_furnish 27 = .ok (.iaload, 1) := by decide +kernel
theorem dX12_furnish_28 : decode cX12_furnish 28 = .ok (.istore_n 3, 1) := by decide +kernel
theorem dX12_furnish_29 : decode cX12_furnish 29 = .ok (.aload_n 0, 1) := by decide +kernel
theorem dX12_furnish_30 : decode cX12_furnish 30 = .ok (.getfield 52, 3) := by decide +kernel
theorem dX12_furnish_33 : decode cX12_furnish 33 = .ok (.iload_n 1, 1) := by decide +kernel
theorem dX12_furnish_34 : decode cX12_furnish 34 = .ok (.iload_n 2, 1) := by decide +kernel
theorem dX12_furnish_35 : decode cX12_furnish 35 = .ok (.iastore, 1) := by decide +kernel
theorem dX12_furnish_36 : decode cX12_furnish 36 = .ok (.iload_n 3, 1) := by decide +kernel
theorem dX12_furnish_37 : decode cX12_furnish 37 = .ok (.ireturn, 1) := by decide +kernel
theorem dX12_loft_0 : decode cX12_loft 0 = .ok (.iload_n 1, 1) := by decide +kernel
theorem dX12_loft_1 : decode cX12_loft 1 = .ok (.iconst 0, 1) := by decide +kernel
theorem dX12_loft_2 : decode cX12_loft 2 = .ok (.bipush 40, 2) := by decide +kernel
theorem dX12_loft_4 : decode cX12_loft 4 = .ok (.invokestatic 99, 3) := by decide +kernel
theorem dX12_loft_7 : decode cX12_loft 7 = .ok (.istore_n 2, 1) := by decide +kernel
theorem dX12_loft_8 : decode cX12_loft 8 = .ok (.iload_n 2, 1) := by decide +kernel
theorem dX12_loft_9 : decode cX12_loft 9 = .ok (.ifCond .eq 9, 3) := by decide +kernel
theorem dX12_loft_12 : decode cX12_loft 12 = .ok (.aload_n 0, 1) := by decide +kernel
theorem dX12_loft_13 : decode cX12_loft 13 = .ok (.iload_n 2, 1) := by decide +kernel
theorem dX12_loft_14 : decode cX12_loft 14 = .ok (.invokevirtual 103, 3) := by decide +kernel
theorem dX12_loft_17 : decode cX12_loft 17 = .ok (.ireturn, 1) := by decide +kernel
theorem dX12_loft_18 : decode cX12_loft 18 = .ok (.aload_n 0, 1) := by decide +kernel
theorem dX12_loft_19 : decode cX12_loft 19 = .ok (.getfield 55, 3) := by decide +kernel
theorem dX12_loft_22 : decode cX12_loft 22 = .ok (.istore_n 3, 1) := by decide +kernel
theorem dX12_loft_23 : decode cX12_loft 23 = .ok (.aload_n 0, 1) := by decide +kernel
theorem dX12_loft_24 : decode cX12_loft 24 = .ok (.iload_n 1, 1) := by decide +kernel
theorem dX12_loft_25 : decode cX12_loft 25 = .ok (.putfield 55, 3) := by decide +kernel
theorem dX12_loft_28 : decode cX12_loft 28 = .ok (.iload_n 3, 1) := by decide +kernel
theorem dX12_loft_29 : decode cX12_loft 29 = .ok (.ireturn, 1) := by decide +kernel
theorem dX12_hides_0 : decode cX12_hides 0 = .ok (.iload_n 1, 1) := by decide +kernel
theorem dX12_hides_1 : decode cX12_hides 1 = .ok (.iconst 1, 1) := by decide +kernel
theorem dX12_hides_2 : decode cX12_hides 2 = .ok (.sipush 1000, 3) := by decide +kernel
theorem dX12_hides_5 : decode cX12_hides 5 = .ok (.aload_n 0, 1) := by decide +kernel
theorem dX12_hides_6 : decode cX12_hides 6 = .ok (.getfield 135, 3) := by decide +kernel
theorem dX12_hides_9 : decode cX12_hides 9 = .ok (.isub, 1) := by decide +kernel
theorem dX12_hides_10 : decode cX12_hides 10 = .ok (.invokestatic 99, 3) := by decide +kernel
theorem dX12_hides_13 : decode cX12_hides 13 = .ok (.istore_n 2, 1) := by decide +kernel
theorem dX12_hides_14 : decode cX12_hides 14 = .ok (.iload_n 2, 1) := by decide +kernel
theorem dX12_hides_15 : decode cX12_hides 15 = .ok (.ifCond .eq 9, 3) := by decide +kernel
theorem dX12_hides_18 : decode cX12_hides 18 = .ok (.aload_n 0, 1) := by decide +kernel
theorem dX12_hides_19 : decode cX12_hides 19 = .ok (.iload_n 2, 1) := by decide +kernel
theorem dX12_hides_20 : decode cX12_hides 20 = .ok (.invokevirtual 103, 3) := by decide +kernel
theorem dX12_hides_23 : decode cX12_hides 23 = .ok (.ireturn, 1) := by decide +kernel
theorem dX12_hides_24 : decode cX12_hides 24 = .ok (.aload_n 0, 1) := by decide +kernel
theorem dX12_hides_25 : decode cX12_hides 25 = .ok (.dup, 1) := by decide +kernel
theorem dX12_hides_26 : decode cX12_hides 26 = .ok (.getfield 135, 3) := by decide +kernel
theorem dX12_hides_29 : decode cX12_hides 29 = .ok (.iload_n 1, 1) := by decide +kernel
theorem dX12_hides_30 : decode cX12_hides 30 = .ok (.iadd, 1) := by decide +kernel
theorem dX12_hides_31 : decode cX12_hides 31 = .ok (.putfield 135, 3) := by decide +kernel
theorem dX12_hides_34 : decode cX12_hides 34 = .ok (.aload_n 0, 1) := by decide +kernel
theorem dX12_hides_35 : decode cX12_hides 35 = .ok (.getfield 135, 3) := by decide +kernel
theorem dX12_hides_38 : decode cX12_hides 38 = .ok (.ireturn, 1) := by decide +kernel
theorem dX12_post_0 : decode cX12_post 0 = .ok (.aload_n 0, 1) := by decide +kernel
theorem dX12_post_1 : decode cX12_post 1 = .ok (.getfield 86, 3) := by decide +kernel
theorem dX12_post_4 : decode cX12_post 4 = .ok (.bipush 111, 2) := by decide +kernel
theorem dX12_post_6 : decode cX12_post 6 = .ok (.bipush 8, 2) := by decide +kernel
theorem dX12_post_8 : decode cX12_post 8 = .ok (.iload_n 1, 1) := by decide +kernel
theorem dX12_post_9 : decode cX12_post 9 = .ok (.imul, 1) := by decide +kernel
theorem dX12_post_10 : decode cX12_post 10 = .ok (.iadd, 1) := by decide +kernel
theorem dX12_post_11 : decode cX12_post 11 = .ok (.iload_n 2, 1) := by decide +kernel
theorem dX12_post_12 : decode cX12_post 12 = .ok (.iadd, 1) := by decide +kernel
theorem dX12_post_13 : decode cX12_post 13 = .ok (.iaload, 1) := by decide +kernel
theorem dX12_post_14 : decode cX12_post 14 = .ok (.ireturn, 1) := by decide +kernel
theorem dX12_put_0 : decode cX12_put 0 = .ok (.aload_n 0, 1) := by decide +kernel
theorem dX12_put_1 : decode cX12_put 1 = .ok (.getfield 86, 3) := by decide +kernel
theorem dX12_put_4 : decode cX12_put 4 = .ok (.bipush 111, 2) := by decide +kernel
theorem dX12_put_6 : decode cX12_put 6 = .ok (.bipush 8, 2) := by decide +kernel
theorem dX12_put_8 : decode cX12_put 8 = .ok (.iload_n 1, 1) := by decide +kernel
theorem dX12_put_9 : decode cX12_put 9 = .ok (.imul, 1) := by decide +kernel
theorem dX12_put_10 : decode cX12_put 10 = .ok (.iadd, 1) := by decide +kernel
theorem dX12_put_11 : decode cX12_put 11 = .ok (.iload_n 2, 1) := by decide +kernel
theorem dX12_put_12 : decode cX12_put 12 = .ok (.iadd, 1) := by decide +kernel
theorem dX12_put_13 : decode cX12_put 13 = .ok (.iload_n 3, 1) := by decide +kernel
theorem dX12_put_14 : decode cX12_put 14 = .ok (.iastore, 1) := by decide +kernel
theorem dX12_put_15 : decode cX12_put 15 = .ok (.return_, 1) := by decide +kernel
theorem dX12_sizes_0 : decode cX12_sizes 0 = .ok (.aload_n 0, 1) := by decide +kernel
theorem dX12_sizes_1 : decode cX12_sizes 1 = .ok (.dup, 1) := by decide +kernel
theorem dX12_sizes_2 : decode cX12_sizes 2 = .ok (.getfield 135, 3) := by decide +kernel
theorem dX12_sizes_5 : decode cX12_sizes 5 = .ok (.iconst 1, 1) := by decide +kernel
theorem dX12_sizes_6 : decode cX12_sizes 6 = .ok (.isub, 1) := by decide +kernel
theorem dX12_sizes_7 : decode cX12_sizes 7 = .ok (.putfield 135, 3) := by decide +kernel
theorem dX12_sizes_10 : decode cX12_sizes 10 = .ok (.aload_n 0, 1) := by decide +kernel
theorem dX12_sizes_11 : decode cX12_sizes 11 = .ok (.iload_n 1, 1) := by decide +kernel
theorem dX12_sizes_12 : decode cX12_sizes 12 = .ok (.iconst 4, 1) := by decide +kernel
theorem dX12_sizes_13 : decode cX12_sizes 13 = .ok (.invokevirtual 138, 3) := by decide +kernel
theorem dX12_sizes_16 : decode cX12_sizes 16 = .ok (.aload_n 0, 1) := by decide +kernel
theorem dX12_sizes_17 : decode cX12_sizes 17 = .ok (.iload_n 1, 1) := by decide +kernel
theorem dX12_sizes_18 : decode cX12_sizes 18 = .ok (.iconst 3, 1) := by decide +kernel
theorem dX12_sizes_19 : decode cX12_sizes 19 = .ok (.invokevirtual 138, 3) := by decide +kernel
theorem dX12_sizes_22 : decode cX12_sizes 22 = .ok (.isub, 1) := by decide +kernel
theorem dX12_sizes_23 : decode cX12_sizes 23 = .ok (.bipush 24, 2) := by decide +kernel
theorem dX12_sizes_25 : decode cX12_sizes 25 = .ok (.idiv, 1) := by decide +kernel
theorem dX12_sizes_26 : decode cX12_sizes 26 = .ok (.istore_n 2, 1) := by decide +kernel
theorem dX12_sizes_27 : decode cX12_sizes 27 = .ok (.iconst 0, 1) := by decide +kernel
theorem dX12_sizes_28 : decode cX12_sizes 28 = .ok (.bipush 58, 2) := by decide +kernel
theorem dX12_sizes_30 : decode cX12_sizes 30 = .ok (.iload_n 2, 1) := by decide +kernel
theorem dX12_sizes_31 : decode cX12_sizes 31 = .ok (.isub, 1) := by decide +kernel
theorem dX12_sizes_32 : decode cX12_sizes 32 = .ok (.invokestatic 141, 3) := by decide +kernel
theorem dX12_sizes_35 : decode cX12_sizes 35 = .ok (.istore_n 3, 1) := by decide +kernel
theorem dX12_sizes_36 : decode cX12_sizes 36 = .ok (.aload_n 0, 1) := by decide +kernel
theorem dX12_sizes_37 : decode cX12_sizes 37 = .ok (.iload_n 1, 1) := by decide +kernel
theorem dX12_sizes_38 : decode cX12_sizes 38 = .ok (.iconst 0, 1) := by decide +kernel
theorem dX12_sizes_39 : decode cX12_sizes 39 = .ok (.iconst 3, 1) := by decide +kernel
theorem dX12_sizes_40 : decode cX12_sizes 40 = .ok (.invokevirtual 144, 3) := by decide +kernel
theorem dX12_sizes_43 : decode cX12_sizes 43 = .ok (.aload_n 0, 1) := by decide +kernel
theorem dX12_sizes_44 : decode cX12_sizes 44 = .ok (.iload_n 1, 1) := by decide +kernel
theorem dX12_sizes_45 : decode cX12_sizes 45 = .ok (.bipush 7, 2) := by decide +kernel
theorem dX12_sizes_47 : decode cX12_sizes 47 = .ok (.iload_n 3, 1) := by decide +kernel
theorem dX12_sizes_48 : decode cX12_sizes 48 = .ok (.invokevirtual 144, 3) := by decide +kernel
theorem dX12_sizes_51 : decode cX12_sizes 51 = .ok (.aload_n 0, 1) := by decide +kernel
theorem dX12_sizes_52 : decode cX12_sizes 52 = .ok (.getfield 31, 3) := by decide +kernel
theorem dX12_sizes_55 : decode cX12_sizes 55 = .ok (.bipush 9, 2) := by decide +kernel
theorem dX12_sizes_57 : decode cX12_sizes 57 = .ok (.aload_n 0, 1) := by decide +kernel
theorem dX12_sizes_58 : decode cX12_sizes 58 = .ok (.iload_n 1, 1) := by decide +kernel
theorem dX12_sizes_59 : decode cX12_sizes 59 = .ok (.iconst 2, 1) := by decide +kernel
theorem dX12_sizes_60 : decode cX12_sizes 60 = .ok (.invokevirtual 138, 3) := by decide +kernel
theorem dX12_sizes_63 : decode cX12_sizes 63 = .ok (.imul, 1) := by decide +kernel
theorem dX12_sizes_64 : decode cX12_sizes 64 = .ok (.aload_n 0, 1) := by decide +kernel
theorem dX12_sizes_65 : decode cX12_sizes 65 = .ok (.getfield 40, 3) := by decide +kernel
theorem dX12_sizes_68 : decode cX12_sizes 68 = .ok (.aload_n 0, 1) := by decide +kernel
theorem dX12_sizes_69 : decode cX12_sizes 69 = .ok (.iload_n 1, 1) := by decide +kernel
theorem dX12_sizes_70 : decode cX12_sizes 70 = .ok (.iconst 1, 1) := by decide +kernel
theorem dX12_sizes_71 : decode cX12_sizes 71 = .ok (.invokevirtual 138, 3) := by decide +kernel
theorem dX12_sizes_74 : decode cX12_sizes 74 = .ok (.iaload, 1) := by decide +kernel
theorem dX12_sizes_75 : decode cX12_sizes 75 = .ok (.iadd, 1) := by decide +kernel
theorem dX12_sizes_76 : decode cX12_sizes 76 = .ok (.dup2, 1) := by decide +kernel
theorem dX12_sizes_77 : decode cX12_sizes 77 = .ok (.iaload, 1) := by decide +kernel
theorem dX12_sizes_78 : decode cX12_sizes 78 = .ok (.iload_n 3, 1) := by decide +kernel
theorem dX12_sizes_79 : decode cX12_sizes 79 = .ok (.iadd, 1) := by decide +kernel
theorem dX12_sizes_80 : decode cX12_sizes 80 = .ok (.iastore, 1) := by decide +kernel
theorem dX12_sizes_81 : decode cX12_sizes 81 = .ok (.iload_n 3, 1) := by decide +kernel
theorem dX12_sizes_82 : decode cX12_sizes 82 = .ok (.ireturn, 1) := by decide +kernel
theorem dX12_size_0 : decode cX12_size 0 = .ok (.iload_n 1, 1) := by decide +kernel
theorem dX12_size_1 : decode cX12_size 1 = .ok (.aload_n 0, 1) := by decide +kernel
theorem dX12_size_2 : decode cX12_size 2 = .ok (.getfield 86, 3) := by decide +kernel
theorem dX12_size_5 : decode cX12_size 5 = .ok (.sipush 752, 3) := by decide +kernel
theorem dX12_size_8 : decode cX12_size 8 = .ok (.iaload, 1) := by decide +kernel
theorem dX12_size_9 : decode cX12_size 9 = .ok (.invokestatic 95, 3) := by decide +kernel
theorem dX12_size_12 : decode cX12_size 12 = .ok (.ifCond .ne 9, 3) := by decide +kernel
theorem dX12_size_15 : decode cX12_size 15 = .ok (.aload_n 0, 1) := by decide +kernel
theorem dX12_size_16 : decode cX12_size 16 = .ok (.iconst (-1), 1) := by decide +kernel
theorem dX12_size_17 : decode cX12_size 17 = .ok (.invokevirtual 103, 3) := by decide +kernel
theorem dX12_size_20 : decode cX12_size 20 = .ok (.ireturn, 1) := by decide +kernel
theorem dX12_size_21 : decode cX12_size 21 = .ok (.aload_n 0, 1) := by decide +kernel
theorem dX12_size_22 : decode cX12_size 22 = .ok (.iload_n 1, 1) := by decide +kernel
theorem dX12_size_23 : decode cX12_size 23 = .ok (.iconst 0, 1) := by decide +kernel
theorem dX12_size_24 : decode cX12_size 24 = .ok (.invokevirtual 138, 3) := by decide +kernel
theorem dX12_size_27 : decode cX12_size 27 = .ok (.iconst 2, 1) := by decide +kernel
theorem dX12_size_28 : decode cX12_size 28 = .ok (.if_icmp .ne 10, 3) := by decide +kernel
theorem dX12_size_31 : decode cX12_size 31 = .ok (.aload_n 0, 1) := by decide +kernel
theorem dX12_size_32 : decode cX12_size 32 = .ok (.getfield 135, 3) := by decide +kernel
theorem dX12_size_35 : decode cX12_size 35 = .ok (.ifCond .ne 12, 3) := by decide +kernel
theorem dX12_size_38 : decode cX12_size 38 = .ok (.aload_n 0, 1) := by decide +kernel
theorem dX12_size_39 : decode cX12_size 39 = .ok (.bipush (-3), 2) := by decide +kernel
theorem dX12_size_41 : decode cX12_size 41 = .ok (.invokevirtual 103, 3) := by decide +kernel
theorem dX12_size_44 : decode cX12_size 44 = .ok (.goto 8, 3) := by decide +kernel
theorem dX12_size_47 : decode cX12_size 47 = .ok (.aload_n 0, 1) := by decide +kernel
theorem dX12_size_48 : decode cX12_size 48 = .ok (.iload_n 1, 1) := by decide +kernel
theorem dX12_size_49 : decode cX12_size 49 = .ok (.invokevirtual 148, 3) := by decide +kernel
theorem dX12_size_52 : decode cX12_size 52 = .ok (.ireturn, 1) := by decide +kernel
theorem dX12_sizeAll_0 : decode cX12_sizeAll 0 = .ok (.iconst 0, 1) := by decide +kernel
theorem dX12_sizeAll_1 : decode cX12_sizeAll 1 = .ok (.istore_n 1, 1) := by decide +kernel
theorem dX12_sizeAll_2 : decode cX12_sizeAll 2 = .ok (.iconst 0, 1) := by decide +kernel
theorem dX12_sizeAll_3 : decode cX12_sizeAll 3 = .ok (.istore_n 2, 1) := by decide +kernel
theorem dX12_sizeAll_4 : decode cX12_sizeAll 4 = .ok (.iload_n 2, 1) := by decide +kernel
theorem dX12_sizeAll_5 : decode cX12_sizeAll 5 = .ok (.aload_n 0, 1) := by decide +kernel
theorem dX12_sizeAll_6 : decode cX12_sizeAll 6 = .ok (.getfield 86, 3) := by decide +kernel
theorem dX12_sizeAll_9 : decode cX12_sizeAll 9 = .ok (.sipush 752, 3) := by decide +kernel
theorem dX12_sizeAll_12 : decode cX12_sizeAll 12 = .ok (.iaload, 1) := by decide +kernel
theorem dX12_sizeAll_13 : decode cX12_sizeAll 13 = .ok (.if_icmp .ge 38, 3) := by decide +kernel
theorem dX12_sizeAll_16 : decode cX12_sizeAll 16 = .ok (.aload_n 0, 1) := by decide +kernel
theorem dX12_sizeAll_17 : decode cX12_sizeAll 17 = .ok (.getfield 135, 3) := by decide +kernel
theorem dX12_sizeAll_20 : decode cX12_sizeAll 20 = .ok (.ifCond .le 31, 3) := by decide +kernel
theorem dX12_sizeAll_23 : decode cX12_sizeAll 23 = .ok (.aload_n 0, 1) := by decide +kernel
theorem dX12_sizeAll_24 : decode cX12_sizeAll 24 = .ok (.iload_n 2, 1) := by decide +kernel
theorem dX12_sizeAll_25 : decode cX12_sizeAll 25 = .ok (.iconst 0, 1) := by decide +kernel
theorem dX12_sizeAll_26 : decode cX12_sizeAll 26 = .ok (.invokevirtual 138, 3) := by decide +kernel
theorem dX12_sizeAll_29 : decode cX12_sizeAll 29 = .ok (.iconst 2, 1) := by decide +kernel
theorem dX12_sizeAll_30 : decode cX12_sizeAll 30 = .ok (.if_icmp .eq 6, 3) := by decide +kernel
theorem dX12_sizeAll_33 : decode cX12_sizeAll 33 = .ok (.goto 12, 3) := by decide +kernel
theorem dX12_sizeAll_36 : decode cX12_sizeAll 36 = .ok (.aload_n 0, 1) := by decide +kernel
theorem dX12_sizeAll_37 : decode cX12_sizeAll 37 = .ok (.iload_n 2, 1) := by decide +kernel
theorem dX12_sizeAll_38 : decode cX12_sizeAll 38 = .ok (.invokevirtual 148, 3) := by decide +kernel
theorem dX12_sizeAll_41 : decode cX12_sizeAll 41 = .ok (.istore_n 3, 1) := by decide +kernel
theorem dX12_sizeAll_42 : decode cX12_sizeAll 42 = .ok (.iinc 1 1, 3) := by decide +kernel
theorem dX12_sizeAll_45 : decode cX12_sizeAll 45 = .ok (.iinc 2 1, 3) := by decide +kernel
theorem dX12_sizeAll_48 : decode cX12_sizeAll 48 = .ok (.goto (-44), 3) := by decide +kernel
theorem dX12_sizeAll_51 : decode cX12_sizeAll 51 = .ok (.iload_n 1, 1) := by decide +kernel
theorem dX12_sizeAll_52 : decode cX12_sizeAll 52 = .ok (.ireturn, 1) := by decide +kernel
theorem dX12_isWeight_0 : decode cX12_isWeight 0 = .ok (.iload_n 0, 1) := by decide +kernel
theorem dX12_isWeight_1 : decode cX12_isWeight 1 = .ok (.iconst 1, 1) := by decide +kernel
theorem dX12_isWeight_2 : decode cX12_isWeight 2 = .ok (.isub, 1) := by decide +kernel
theorem dX12_isWeight_3 : decode cX12_isWeight 3 = .ok (.bipush 8, 2) := by decide +kernel
theorem dX12_isWeight_5 : decode cX12_isWeight 5 = .ok (.invokestatic 95, 3) := by decide +kernel
theorem dX12_isWeight_8 : decode cX12_isWeight 8 = .ok (.ireturn, 1) := by decide +kernel
theorem dX12_duty_0 : decode cX12_duty 0 = .ok (.iload_n 1, 1) := by decide +kernel
theorem dX12_duty_1 : decode cX12_duty 1 = .ok (.invokestatic 151, 3) := by decide +kernel
theorem dX12_duty_4 : decode cX12_duty 4 = .ok (.ifCond .eq 13, 3) := by decide +kernel
theorem dX12_duty_7 : decode cX12_duty 7 = .ok (.iload_n 2, 1) := by decide +kernel
theorem dX12_duty_8 : decode cX12_duty 8 = .ok (.iconst 0, 1) := by decide +kernel
theorem dX12_duty_9 : decode cX12_duty 9 = .ok (.bipush 99, 2) := by decide +kernel
theorem dX12_duty_11 : decode cX12_duty 11 = .ok (.invokestatic 99, 3) := by decide +kernel
theorem dX12_duty_14 : decode cX12_duty 14 = .ok (.goto 4, 3) := by decide +kernel
theorem dX12_duty_17 : decode cX12_duty 17 = .ok (.iconst (-1), 1) := by decide +kernel
theorem dX12_duty_18 : decode cX12_duty 18 = .ok (.istore_n 3, 1) := by decide +kernel
theorem dX12_duty_19 : decode cX12_duty 19 = .ok (.iload_n 3, 1) := by decide +kernel
theorem dX12_duty_20 : decode cX12_duty 20 = .ok (.ifCond .eq 9, 3) := by decide +kernel
theorem dX12_duty_23 : decode cX12_duty 23 = .ok (.aload_n 0, 1) := by decide +kernel
theorem dX12_duty_24 : decode cX12_duty 24 = .ok (.iload_n 3, 1) := by decide +kernel
theorem dX12_duty_25 : decode cX12_duty 25 = .ok (.invokevirtual 103, 3) := by decide +kernel
theorem dX12_duty_28 : decode cX12_duty 28 = .ok (.ireturn, 1) := by decide +kernel
theorem dX12_duty_29 : decode cX12_duty 29 = .ok (.aload_n 0, 1) := by decide +kernel
theorem dX12_duty_30 : decode cX12_duty 30 = .ok (.getfield 28, 3) := by decide +kernel
theorem dX12_duty_33 : decode cX12_duty 33 = .ok (.iload_n 1, 1) := by decide +kernel
theorem dX12_duty_34 : decode cX12_duty 34 = .ok (.iaload, 1) := by decide +kernel
theorem dX12_duty_35 : decode cX12_duty 35 = .ok (.istore 4, 2) := by decide +kernel
theorem dX12_duty_37 : decode cX12_duty 37 = .ok (.aload_n 0, 1) := by decide +kernel
theorem dX12_duty_38 : decode cX12_duty 38 = .ok (.getfield 28, 3) := by decide +kernel
theorem dX12_duty_41 : decode cX12_duty 41 = .ok (.iload_n 1, 1) := by decide +kernel
theorem dX12_duty_42 : decode cX12_duty 42 = .ok (.iload_n 2, 1) := by decide +kernel
theorem dX12_duty_43 : decode cX12_duty 43 = .ok (.iastore, 1) := by decide +kernel
theorem dX12_duty_44 : decode cX12_duty 44 = .ok (.iload 4, 2) := by decide +kernel
theorem dX12_duty_46 : decode cX12_duty 46 = .ok (.ireturn, 1) := by decide +kernel
theorem dX12_order_0 : decode cX12_order 0 = .ok (.aload_n 0, 1) := by decide +kernel
theorem dX12_order_1 : decode cX12_order 1 = .ok (.iload_n 1, 1) := by decide +kernel
theorem dX12_order_2 : decode cX12_order 2 = .ok (.invokevirtual 111, 3) := by decide +kernel
theorem dX12_order_5 : decode cX12_order 5 = .ok (.ifCond .eq 10, 3) := by decide +kernel
theorem dX12_order_8 : decode cX12_order 8 = .ok (.iload_n 2, 1) := by decide +kernel
theorem dX12_order_9 : decode cX12_order 9 = .ok (.invokestatic 151, 3) := by decide +kernel
theorem dX12_order_12 : decode cX12_order 12 = .ok (.ifCond .ne 9, 3) := by decide +kernel
theorem dX12_order_15 : decode cX12_order 15 = .ok (.aload_n 0, 1) := by decide +kernel
theorem dX12_order_16 : decode cX12_order 16 = .ok (.iconst (-1), 1) := by decide +kernel
theorem dX12_order_17 : decode cX12_order 17 = .ok (.invokevirtual 103, 3) := by decide +kernel
theorem dX12_order_20 : decode cX12_order 20 = .ok (.ireturn, 1) := by decide +kernel
theorem dX12_order_21 : decode cX12_order 21 = .ok (.iload_n 3, 1) := by decide +kernel
theorem dX12_order_22 : decode cX12_order 22 = .ok (.iconst 1, 1) := by decide +kernel
theorem dX12_order_23 : decode cX12_order 23 = .ok (.if_icmp .lt 13, 3) := by decide +kernel
theorem dX12_order_26 : decode cX12_order 26 = .ok (.iload 4, 2) := by decide +kernel
theorem dX12_order_28 : decode cX12_order 28 = .ok (.ifCond .lt 8, 3) := by decide +kernel
theorem dX12_order_31 : decode cX12_order 31 = .ok (.iload 5, 2) := by decide +kernel
theorem dX12_order_33 : decode cX12_order 33 = .ok (.ifCond .ge 10, 3) := by decide +kernel
theorem dX12_order_36 : decode cX12_order 36 = .ok (.aload_n 0, 1) := by decide +kernel
theorem dX12_order_37 : decode cX12_order 37 = .ok (.bipush (-4), 2) := by decide +kernel
theorem dX12_order_39 : decode cX12_order 39 = .ok (.invokevirtual 103, 3) := by decide +kernel
theorem dX12_order_42 : decode cX12_order 42 = .ok (.ireturn, 1) := by decide +kernel
theorem dX12_order_43 : decode cX12_order 43 = .ok (.iload_n 3, 1) := by decide +kernel
theorem dX12_order_44 : decode cX12_order 44 = .ok (.bipush 20, 2) := by decide +kernel
theorem dX12_order_46 : decode cX12_order 46 = .ok (.if_icmp .gt 27, 3) := by decide +kernel
theorem dX12_order_49 : decode cX12_order 49 = .ok (.iload 4, 2) := by decide +kernel
theorem dX12_order_51 : decode cX12_order 51 = .ok (.bipush 100, 2) := by decide +kernel
theorem dX12_order_53 : decode cX12_order 53 = .ok (.if_icmp .gt 20, 3) := by decide +kernel
theorem dX12_order_56 : decode cX12_order 56 = .ok (.iload 5, 2) := by decide +kernel
theorem dX12_order_58 : decode cX12_order 58 = .ok (.sipush 999, 3) := by decide +kernel
theorem dX12_order_61 : decode cX12_order 61 = .ok (.if_icmp .gt 12, 3) := by decide +kernel
theorem dX12_order_64 : decode cX12_order 64 = .ok (.aload_n 0, 1) := by decide +kernel
theorem dX12_order_65 : decode cX12_order 65 = .ok (.getfield 154, 3) := by decide +kernel
theorem dX12_order_68 : decode cX12_order 68 = .ok (.bipush 12, 2) := by decide +kernel
theorem dX12_order_70 : decode cX12_order 70 = .ok (.if_icmp .ne 10, 3) := by decide +kernel
theorem dX12_order_73 : decode cX12_order 73 = .ok (.aload_n 0, 1) := by decide +kernel
theorem dX12_order_74 : decode cX12_order 74 = .ok (.bipush (-6), 2) := by decide +kernel
theorem dX12_order_76 : decode cX12_order 76 = .ok (.invokevirtual 103, 3) := by decide +kernel
theorem dX12_order_79 : decode cX12_order 79 = .ok (.ireturn, 1) := by decide +kernel
theorem dX12_order_80 : decode cX12_order 80 = .ok (.aload_n 0, 1) := by decide +kernel
theorem dX12_order_81 : decode cX12_order 81 = .ok (.getfield 59, 3) := by decide +kernel
theorem dX12_order_84 : decode cX12_order 84 = .ok (.aload_n 0, 1) := by decide +kernel
theorem dX12_order_85 : decode cX12_order 85 = .ok (.getfield 154, 3) := by decide +kernel
theorem dX12_order_88 : decode cX12_order 88 = .ok (.iload_n 1, 1) := by decide +kernel
theorem dX12_order_89 : decode cX12_order 89 = .ok (.iastore, 1) := by decide +kernel
theorem dX12_order_90 : decode cX12_order 90 = .ok (.aload_n 0, 1) := by decide +kernel
theorem dX12_order_91 : decode cX12_order 91 = .ok (.getfield 62, 3) := by decide +kernel
theorem dX12_order_94 : decode cX12_order 94 = .ok (.aload_n 0, 1) := by decide +kernel
theorem dX12_order_95 : decode cX12_order 95 = .ok (.getfield 154, 3) := by decide +kernel
theorem dX12_order_98 : decode cX12_order 98 = .ok (.iload_n 2, 1) := by decide +kernel
theorem dX12_order_99 : decode cX12_order 99 = .ok (.iastore, 1) := by decide +kernel
theorem dX12_order_100 : decode cX12_order 100 = .ok (.aload_n 0, 1) := by decide +kernel
theorem dX12_order_101 : decode cX12_order 101 = .ok (.getfield 65, 3) := by decide +kernel
theorem dX12_order_104 : decode cX12_order 104 = .ok (.aload_n 0, 1) := by decide +kernel
theorem dX12_order_105 : decode cX12_order 105 = .ok (.getfield 154, 3) := by decide +kernel
theorem dX12_order_108 : decode cX12_order 108 = .ok (.iload_n 3, 1) := by decide +kernel
theorem dX12_order_109 : decode cX12_order 109 = .ok (.iastore, 1) := by decide +kernel
theorem dX12_order_110 : decode cX12_order 110 = .ok (.aload_n 0, 1) := by decide +kernel
theorem dX12_order_111 : decode cX12_order 111 = .ok (.getfield 68, 3) := by decide +kernel
theorem dX12_order_114 : decode cX12_order 114 = .ok (.aload_n 0, 1) := by decide +kernel
theorem dX12_order_115 : decode cX12_order 115 = .ok (.getfield 154, 3) := by decide +kernel
theorem dX12_order_118 : decode cX12_order 118 = .ok (.iload 4, 2) := by decide +kernel
theorem dX12_order_120 : decode cX12_order 120 = .ok (.iastore, 1) := by decide +kernel
theorem dX12_order_121 : decode cX12_order 121 = .ok (.aload_n 0, 1) := by decide +kernel
theorem dX12_order_122 : decode cX12_order 122 = .ok (.getfield 71, 3) := by decide +kernel
theorem dX12_order_125 : decode cX12_order 125 = .ok (.aload_n 0, 1) := by decide +kernel
theorem dX12_order_126 : decode cX12_order 126 = .ok (.getfield 154, 3) := by decide +kernel
theorem dX12_order_129 : decode cX12_order 129 = .ok (.iload 5, 2) := by decide +kernel
theorem dX12_order_131 : decode cX12_order 131 = .ok (.iastore, 1) := by decide +kernel
theorem dX12_order_132 : decode cX12_order 132 = .ok (.aload_n 0, 1) := by decide +kernel
theorem dX12_order_133 : decode cX12_order 133 = .ok (.getfield 74, 3) := by decide +kernel
theorem dX12_order_136 : decode cX12_order 136 = .ok (.aload_n 0, 1) := by decide +kernel
theorem dX12_order_137 : decode cX12_order 137 = .ok (.getfield 154, 3) := by decide +kernel
theorem dX12_order_140 : decode cX12_order 140 = .ok (.bipush (-9), 2) := by decide +kernel
theorem dX12_order_142 : decode cX12_order 142 = .ok (.iastore, 1) := by decide +kernel
theorem dX12_order_143 : decode cX12_order 143 = .ok (.aload_n 0, 1) := by decide +kernel
theorem dX12_order_144 : decode cX12_order 144 = .ok (.dup, 1) := by decide +kernel
theorem dX12_order_145 : decode cX12_order 145 = .ok (.getfield 154, 3) := by decide +kernel
theorem dX12_order_148 : decode cX12_order 148 = .ok (.iconst 1, 1) := by decide +kernel
theorem dX12_order_149 : decode cX12_order 149 = .ok (.iadd, 1) := by decide +kernel
theorem dX12_order_150 : decode cX12_order 150 = .ok (.putfield 154, 3) := by decide +kernel
theorem dX12_order_153 : decode cX12_order 153 = .ok (.aload_n 0, 1) := by decide +kernel
theorem dX12_order_154 : decode cX12_order 154 = .ok (.getfield 154, 3) := by decide +kernel
theorem dX12_order_157 : decode cX12_order 157 = .ok (.iconst 1, 1) := by decide +kernel
theorem dX12_order_158 : decode cX12_order 158 = .ok (.isub, 1) := by decide +kernel
theorem dX12_order_159 : decode cX12_order 159 = .ok (.ireturn, 1) := by decide +kernel
theorem dX12_today_0 : decode cX12_today 0 = .ok (.aload_n 0, 1) := by decide +kernel
theorem dX12_today_1 : decode cX12_today 1 = .ok (.getfield 86, 3) := by decide +kernel
theorem dX12_today_4 : decode cX12_today 4 = .ok (.sipush 751, 3) := by decide +kernel
theorem dX12_today_7 : decode cX12_today 7 = .ok (.iaload, 1) := by decide +kernel
theorem dX12_today_8 : decode cX12_today 8 = .ok (.bipush 24, 2) := by decide +kernel
theorem dX12_today_10 : decode cX12_today 10 = .ok (.idiv, 1) := by decide +kernel
theorem dX12_today_11 : decode cX12_today 11 = .ok (.ireturn, 1) := by decide +kernel
theorem dX12_fill_0 : decode cX12_fill 0 = .ok (.iload_n 1, 1) := by decide +kernel
theorem dX12_fill_1 : decode cX12_fill 1 = .ok (.aload_n 0, 1) := by decide +kernel
theorem dX12_fill_2 : decode cX12_fill 2 = .ok (.getfield 154, 3) := by decide +kernel
theorem dX12_fill_5 : decode cX12_fill 5 = .ok (.invokestatic 95, 3) := by decide +kernel
theorem dX12_fill_8 : decode cX12_fill 8 = .ok (.ifCond .ne 12, 3) := by decide +kernel
theorem dX12_fill_11 : decode cX12_fill 11 = .ok (.ldc 157, 2) := by decide +kernel
theorem dX12_fill_13 : decode cX12_fill 13 = .ok (.aload_n 0, 1) := by decide +kernel
theorem dX12_fill_14 : decode cX12_fill 14 = .ok (.iconst (-1), 1) := by decide +kernel
theorem dX12_fill_15 : decode cX12_fill 15 = .ok (.invokevirtual 103, 3) := by decide +kernel
theorem dX12_fill_18 : decode cX12_fill 18 = .ok (.isub, 1) := by decide +kernel
theorem dX12_fill_19 : decode cX12_fill 19 = .ok (.ireturn, 1) := by decide +kernel
theorem dX12_fill_20 : decode cX12_fill 20 = .ok (.bipush 9, 2) := by decide +kernel
theorem dX12_fill_22 : decode cX12_fill 22 = .ok (.aload_n 0, 1) := by decide +kernel
theorem dX12_fill_23 : decode cX12_fill 23 = .ok (.getfield 59, 3) := by decide +kernel
theorem dX12_fill_26 : decode cX12_fill 26 = .ok (.iload_n 1, 1) := by decide +kernel
theorem dX12_fill_27 : decode cX12_fill 27 = .ok (.iaload, 1) := by decide +kernel
theorem dX12_fill_28 : decode cX12_fill 28 = .ok (.imul, 1) := by decide +kernel
theorem dX12_fill_29 : decode cX12_fill 29 = .ok (.aload_n 0, 1) := by decide +kernel
theorem dX12_fill_30 : decode cX12_fill 30 = .ok (.getfield 62, 3) := by decide +kernel
theorem dX12_fill_33 : decode cX12_fill 33 = .ok (.iload_n 1, 1) := by decide +kernel
theorem dX12_fill_34 : decode cX12_fill 34 = .ok (.iaload, 1) := by decide +kernel
theorem dX12_fill_35 : decode cX12_fill 35 = .ok (.iadd, 1) := by decide +kernel
theorem dX12_fill_36 : decode cX12_fill 36 = .ok (.istore_n 2, 1) := by decide +kernel
theorem dX12_fill_37 : decode cX12_fill 37 = .ok (.aload_n 0, 1) := by decide +kernel
theorem dX12_fill_38 : decode cX12_fill 38 = .ok (.getfield 74, 3) := by decide +kernel
theorem dX12_fill_41 : decode cX12_fill 41 = .ok (.iload_n 1, 1) := by decide +kernel
theorem dX12_fill_42 : decode cX12_fill 42 = .ok (.iaload, 1) := by decide +kernel
theorem dX12_fill_43 : decode cX12_fill 43 = .ok (.ifCond .ge 22, 3) := by decide +kernel
theorem dX12_fill_46 : decode cX12_fill 46 = .ok (.aload_n 0, 1) := by decide +kernel
theorem dX12_fill_47 : decode cX12_fill 47 = .ok (.getfield 31, 3) := by decide +kernel
theorem dX12_fill_50 : decode cX12_fill 50 = .ok (.iload_n 2, 1) := by decide +kernel
theorem dX12_fill_51 : decode cX12_fill 51 = .ok (.iaload, 1) := by decide +kernel
theorem dX12_fill_52 : decode cX12_fill 52 = .ok (.sipush 480, 3) := by decide +kernel
theorem dX12_fill_55 : decode cX12_fill 55 = .ok (.aload_n 0, 1) := by decide +kernel
theorem dX12_fill_56 : decode cX12_fill 56 = .ok (.getfield 65, 3) := by decide +kernel
theorem dX12_fill_59 : decode cX12_fill 59 = .ok (.iload_n 1, 1) := by decide +kernel
theorem dX12_fill_60 : decode cX12_fill 60 = .ok (.iaload, 1) := by decide +kernel
theorem dX12_fill_61 : decode cX12_fill 61 = .ok (.imul, 1) := by decide +kernel
theorem dX12_fill_62 : decode cX12_fill 62 = .ok (.if_icmp .ge 13, 3) := by decide +kernel
theorem dX12_fill_65 : decode cX12_fill 65 = .ok (.ldc 157, 2) := by decide +kernel
theorem dX12_fill_67 : decode cX12_fill 67 = .ok (.aload_n 0, 1) := by decide +kernel
theorem dX12_fill_68 : decode cX12_fill 68 = .ok (.bipush (-3), 2) := by decide +kernel
theorem dX12_fill_70 : decode cX12_fill 70 = .ok (.invokevirtual 103, 3) := by decide +kernel
theorem dX12_fill_73 : decode cX12_fill 73 = .ok (.isub, 1) := by decide +kernel
theorem dX12_fill_74 : decode cX12_fill 74 = .ok (.ireturn, 1) := by decide +kernel
theorem dX12_fill_75 : decode cX12_fill 75 = .ok (.aload_n 0, 1) := by decide +kernel
theorem dX12_fill_76 : decode cX12_fill 76 = .ok (.getfield 31, 3) := by decide +kernel
theorem dX12_fill_79 : decode cX12_fill 79 = .ok (.iload_n 2, 1) := by decide +kernel
theorem dX12_fill_80 : decode cX12_fill 80 = .ok (.dup2, 1) := by decide +kernel
theorem dX12_fill_81 : decode cX12_fill 81 = .ok (.iaload, 1) := by decide +kernel
theorem dX12_fill_82 : decode cX12_fill 82 = .ok (.sipush 480, 3) := by decide +kernel
theorem dX12_fill_85 : decode cX12_fill 85 = .ok (.aload_n 0, 1) := by decide +kernel
theorem dX12_fill_86 : decode cX12_fill 86 = .ok (.getfield 65, 3) := by decide +kernel
theorem dX12_fill_89 : decode cX12_fill 89 = .ok (.iload_n 1, 1) := by decide +kernel
theorem dX12_fill_90 : decode cX12_fill 90 = .ok (.iaload, 1) := by decide +kernel
theorem dX12_fill_91 : decode cX12_fill 91 = .ok (.imul, 1) := by decide +kernel
theorem dX12_fill_92 : decode cX12_fill 92 = .ok (.isub, 1) := by decide +kernel
theorem dX12_fill_93 : decode cX12_fill 93 = .ok (.iastore, 1) := by decide +kernel
theorem dX12_fill_94 : decode cX12_fill 94 = .ok (.aload_n 0, 1) := by decide +kernel
theorem dX12_fill_95 : decode cX12_fill 95 = .ok (.getfield 74, 3) := by decide +kernel
theorem dX12_fill_98 : decode cX12_fill 98 = .ok (.iload_n 1, 1) := by decide +kernel
theorem dX12_fill_99 : decode cX12_fill 99 = .ok (.aload_n 0, 1) := by decide +kernel
theorem dX12_fill_100 : decode cX12_fill 100 = .ok (.getfield 86, 3) := by decide +kernel
theorem dX12_fill_103 : decode cX12_fill 103 = .ok (.sipush 751, 3) := by decide +kernel
theorem dX12_fill_106 : decode cX12_fill 106 = .ok (.iaload, 1) := by decide +kernel
theorem dX12_fill_107 : decode cX12_fill 107 = .ok (.iastore, 1) := by decide +kernel
theorem dX12_fill_108 : decode cX12_fill 108 = .ok (.aload_n 0, 1) := by decide +kernel
theorem dX12_fill_109 : decode cX12_fill 109 = .ok (.getfield 65, 3) := by decide +kernel
theorem dX12_fill_112 : decode cX12_fill 112 = .ok (.iload_n 1, 1) := by decide +kernel
theorem dX12_fill_113 : decode cX12_fill 113 = .ok (.iaload, 1) := by decide +kernel
theorem dX12_fill_114 : decode cX12_fill 114 = .ok (.aload_n 0, 1) := by decide +kernel
theorem dX12_fill_115 : decode cX12_fill 115 = .ok (.invokevirtual 158, 3) := by decide +kernel
theorem dX12_fill_118 : decode cX12_fill 118 = .ok (.aload_n 0, 1) := by decide +kernel
theorem dX12_fill_119 : decode cX12_fill 119 = .ok (.getfield 68, 3) := by decide +kernel
theorem dX12_fill_122 : decode cX12_fill 122 = .ok (.iload_n 1, 1) := by decide +kernel
theorem dX12_fill_123 : decode cX12_fill 123 = .ok (.iaload, 1) := by decide +kernel
theorem dX12_fill_124 : decode cX12_fill 124 = .ok (.if_icmp .le 14, 3) := by decide +kernel
theorem dX12_fill_127 : decode cX12_fill 127 = .ok (.aload_n 0, 1) := by decide +kernel
theorem dX12_fill_128 : decode cX12_fill 128 = .ok (.getfield 71, 3) := by decide +kernel
theorem dX12_fill_131 : decode cX12_fill 131 = .ok (.iload_n 1, 1) := by decide +kernel
theorem dX12_fill_132 : decode cX12_fill 132 = .ok (.iaload, 1) := by decide +kernel
theorem dX12_fill_133 : decode cX12_fill 133 = .ok (.iconst 2, 1) := by decide +kernel
theorem dX12_fill_134 : decode cX12_fill 134 = .ok (.idiv, 1) := by decide +kernel
theorem dX12_fill_135 : decode cX12_fill 135 = .ok (.goto 9, 3) := by decide +kernel
theorem dX12_fill_138 : decode cX12_fill 138 = .ok (.aload_n 0, 1) := by decide +kernel
theorem dX12_fill_139 : decode cX12_fill 139 = .ok (.getfield 71, 3) := by decide +kernel
theorem dX12_fill_142 : decode cX12_fill 142 = .ok (.iload_n 1, 1) := by decide +kernel
theorem dX12_fill_143 : decode cX12_fill 143 = .ok (.iaload, 1) := by decide +kernel
theorem dX12_fill_144 : decode cX12_fill 144 = .ok (.aload_n 0, 1) := by decide +kernel
theorem dX12_fill_145 : decode cX12_fill 145 = .ok (.getfield 28, 3) := by decide +kernel
theorem dX12_fill_148 : decode cX12_fill 148 = .ok (.aload_n 0, 1) := by decide +kernel
theorem dX12_fill_149 : decode cX12_fill 149 = .ok (.getfield 62, 3) := by decide +kernel
theorem dX12_fill_152 : decode cX12_fill 152 = .ok (.iload_n 1, 1) := by decide +kernel
theorem dX12_fill_153 : decode cX12_fill 153 = .ok (.iaload, 1) := by decide +kernel
theorem dX12_fill_154 : decode cX12_fill 154 = .ok (.iaload, 1) := by decide +kernel
theorem dX12_fill_155 : decode cX12_fill 155 = .ok (.isub, 1) := by decide +kernel
theorem dX12_fill_156 : decode cX12_fill 156 = .ok (.imul, 1) := by decide +kernel
theorem dX12_fill_157 : decode cX12_fill 157 = .ok (.istore_n 3, 1) := by decide +kernel
theorem dX12_fill_158 : decode cX12_fill 158 = .ok (.aload_n 0, 1) := by decide +kernel
theorem dX12_fill_159 : decode cX12_fill 159 = .ok (.dup, 1) := by decide +kernel
theorem dX12_fill_160 : decode cX12_fill 160 = .ok (.getfield 162, 3) := by decide +kernel
theorem dX12_fill_163 : decode cX12_fill 163 = .ok (.iload_n 3, 1) := by decide +kernel
theorem dX12_fill_164 : decode cX12_fill 164 = .ok (.iadd, 1) := by decide +kernel
theorem dX12_fill_165 : decode cX12_fill 165 = .ok (.putfield 162, 3) := by decide +kernel
theorem dX12_fill_168 : decode cX12_fill 168 = .ok (.iload_n 3, 1) := by decide +kernel
theorem dX12_fill_169 : decode cX12_fill 169 = .ok (.ireturn, 1) := by decide +kernel
theorem dX12_bests_0 : decode cX12_bests 0 = .ok (.iconst 0, 1) := by decide +kernel
theorem dX12_bests_1 : decode cX12_bests 1 = .ok (.istore_n 2, 1) := by decide +kernel
theorem dX12_bests_2 : decode cX12_bests 2 = .ok (.iconst 0, 1) := by decide +kernel
theorem dX12_bests_3 : decode cX12_bests 3 = .ok (.istore_n 3, 1) := by decide +kernel
theorem dX12_bests_4 : decode cX12_bests 4 = .ok (.iload_n 3, 1) := by decide +kernel
theorem dX12_bests_5 : decode cX12_bests 5 = .ok (.aload_n 0, 1) := by decide +kernel
theorem dX12_bests_6 : decode cX12_bests 6 = .ok (.getfield 154, 3) := by decide +kernel
theorem dX12_bests_9 : decode cX12_bests 9 = .ok (.if_icmp .ge 85, 3) := by decide +kernel
theorem dX12_bests_12 : decode cX12_bests 12 = .ok (.aload_n 0, 1) := by decide +kernel
theorem dX12_bests_13 : decode cX12_bests 13 = .ok (.getfield 74, 3) := by decide +kernel
theorem dX12_bests_16 : decode cX12_bests 16 = .ok (.iload_n 3, 1) := by decide +kernel
theorem dX12_bests_17 : decode cX12_bests 17 = .ok (.iaload, 1) := by decide +kernel
theorem dX12_bests_18 : decode cX12_bests 18 = .ok (.ifCond .lt 6, 3) := by decide +kernel
theorem dX12_bests_21 : decode cX12_bests 21 = .ok (.goto 67, 3) := by decide +kernel
theorem dX12_bests_24 : decode cX12_bests 24 = .ok (.iload_n 2, 1) := by decide +kernel
theorem dX12_bests_25 : decode cX12_bests 25 = .ok (.istore 4, 2) := by decide +kernel
theorem dX12_bests_27 : decode cX12_bests 27 = .ok (.iload 4, 2) := by decide +kernel
theorem dX12_bests_29 : decode cX12_bests 29 = .ok (.ifCond .le 48, 3) := by decide +kernel
theorem dX12_bests_32 : decode cX12_bests 32 = .ok (.aload_n 0, 1) := by decide +kernel
theorem dX12_bests_33 : decode cX12_bests 33 = .ok (.getfield 68, 3) := by decide +kernel
theorem dX12_bests_36 : decode cX12_bests 36 = .ok (.aload_n 0, 1) := by decide +kernel
theorem dX12_bests_37 : decode cX12_bests 37 = .ok (.getfield 92, 3) := by decide +kernel
theorem dX12_bests_40 : decode cX12_bests 40 = .ok (.iload 4, 2) := by decide +kernel
theorem dX12_bests_42 : decode cX12_bests 42 = .ok (.iconst 1, 1) := by decide +kernel
theorem dX12_bests_43 : decode cX12_bests 43 = .ok (.isub, 1) := by decide +kernel
theorem dX12_bests_44 : decode cX12_bests 44 = .ok (.iaload, 1) := by decide +kernel
theorem dX12_bests_45 : decode cX12_bests 45 = .ok (.iaload, 1) := by decide +kernel
theorem dX12_bests_46 : decode cX12_bests 46 = .ok (.aload_n 0, 1) := by decide +kernel
theorem dX12_bests_47 : decode cX12_bests 47 = .ok (.getfield 68, 3) := by decide +kernel
theorem dX12_bests_50 : decode cX12_bests 50 = .ok (.iload_n 3, 1) := by decide +kernel
theorem dX12_bests_51 : decode cX12_bests 51 = .ok (.iaload, 1) := by decide +kernel
theorem dX12_bests_52 : decode cX12_bests 52 = .ok (.if_icmp .le 25, 3) := by decide +kernel
theorem dX12_bests_55 : decode cX12_bests 55 = .ok (.aload_n 0, 1) := by decide +kernel
theorem dX12_bests_56 : decode cX12_bests 56 = .ok (.getfield 92, 3) := by decide +kernel
theorem dX12_bests_59 : decode cX12_bests 59 = .ok (.iload 4, 2) := by decide +kernel
theorem dX12_bests_61 : decode cX12_bests 61 = .ok (.aload_n 0, 1) := by decide +kernel
theorem dX12_bests_62 : decode cX12_bests 62 = .ok (.getfield 92, 3) := by decide +kernel
theorem dX12_bests_65 : decode cX12_bests 65 = .ok (.iload 4, 2) := by decide +kernel
theorem dX12_bests_67 : decode cX12_bests 67 = .ok (.iconst 1, 1) := by decide +kernel
theorem dX12_bests_68 : decode cX12_bests 68 = .ok (.isub, 1) := by decide +kernel
theorem dX12_bests_69 : decode cX12_bests 69 = .ok (.iaload, 1) := by decide +kernel
theorem dX12_bests_70 : decode cX12_bests 70 = .ok (.iastore, 1) := by decide +kernel
theorem dX12_bests_71 : decode cX12_bests 71 = .ok (.iinc 4 (-1), 3) := by decide +kernel
theorem dX12_bests_74 : decode cX12_bests 74 = .ok (.goto (-47), 3) := by decide +kernel
theorem dX12_bests_77 : decode cX12_bests 77 = .ok (.aload_n 0, 1) := by decide +kernel
theorem dX12_bests_78 : decode cX12_bests 78 = .ok (.getfield 92, 3) := by decide +kernel
theorem dX12_bests_81 : decode cX12_bests 81 = .ok (.iload 4, 2) := by decide +kernel
theorem dX12_bests_83 : decode cX12_bests 83 = .ok (.iload_n 3, 1) := by decide +kernel
theorem dX12_bests_84 : decode cX12_bests 84 = .ok (.iastore, 1) := by decide +kernel
theorem dX12_bests_85 : decode cX12_bests 85 = .ok (.iinc 2 1, 3) := by decide +kernel
theorem dX12_bests_88 : decode cX12_bests 88 = .ok (.iinc 3 1, 3) := by decide +kernel
theorem dX12_bests_91 : decode cX12_bests 91 = .ok (.goto (-87), 3) := by decide +kernel
theorem dX12_bests_94 : decode cX12_bests 94 = .ok (.iload_n 2, 1) := by decide +kernel
theorem dX12_bests_95 : decode cX12_bests 95 = .ok (.bipush 8, 2) := by decide +kernel
theorem dX12_bests_97 : decode cX12_bests 97 = .ok (.if_icmp .le 6, 3) := by decide +kernel
theorem dX12_bests_100 : decode cX12_bests 100 = .ok (.bipush (-3), 2) := by decide +kernel
theorem dX12_bests_102 : decode cX12_bests 102 = .ok (.ireturn, 1) := by decide +kernel
theorem dX12_bests_103 : decode cX12_bests 103 = .ok (.iload_n 1, 1) := by decide +kernel
theorem dX12_bests_104 : decode cX12_bests 104 = .ok (.iconst 1, 1) := by decide +kernel
theorem dX12_bests_105 : decode cX12_bests 105 = .ok (.sipush 9600, 3) := by decide +kernel
theorem dX12_bests_108 : decode cX12_bests 108 = .ok (.invokestatic 99, 3) := by decide +kernel
theorem dX12_bests_111 : decode cX12_bests 111 = .ok (.istore_n 3, 1) := by decide +kernel
theorem dX12_bests_112 : decode cX12_bests 112 = .ok (.iload_n 3, 1) := by decide +kernel
theorem dX12_bests_113 : decode cX12_bests 113 = .ok (.ifCond .eq 5, 3) := by decide +kernel
theorem dX12_bests_116 : decode cX12_bests 116 = .ok (.iload_n 3, 1) := by decide +kernel
theorem dX12_bests_117 : decode cX12_bests 117 = .ok (.ireturn, 1) := by decide +kernel
theorem dX12_bests_118 : decode cX12_bests 118 = .ok (.aload_n 0, 1) := by decide +kernel
theorem dX12_bests_119 : decode cX12_bests 119 = .ok (.iconst 0, 1) := by decide +kernel
theorem dX12_bests_120 : decode cX12_bests 120 = .ok (.putfield 165, 3) := by decide +kernel
theorem dX12_bests_123 : decode cX12_bests 123 = .ok (.aload_n 0, 1) := by decide +kernel
theorem dX12_bests_124 : decode cX12_bests 124 = .ok (.iconst 0, 1) := by decide +kernel
theorem dX12_bests_125 : decode cX12_bests 125 = .ok (.putfield 168, 3) := by decide +kernel
theorem dX12_bests_128 : decode cX12_bests 128 = .ok (.iconst 0, 1) := by decide +kernel
theorem dX12_bests_129 : decode cX12_bests 129 = .ok (.istore 4, 2) := by decide +kernel
theorem dX12_bests_131 : decode cX12_bests 131 = .ok (.iconst 1, 1) := by decide +kernel
theorem dX12_bests_132 : decode cX12_bests 132 = .ok (.istore 5, 2) := by decide +kernel
theorem dX12_bests_134 : decode cX12_bests 134 = .ok (.iload 5, 2) := by decide +kernel
theorem dX12_bests_136 : decode cX12_bests 136 = .ok (.iconst 1, 1) := by decide +kernel
theorem dX12_bests_137 : decode cX12_bests 137 = .ok (.iload_n 2, 1) := by decide +kernel
theorem dX12_bests_138 : decode cX12_bests 138 = .ok (.ishl, 1) := by decide +kernel
theorem dX12_bests_139 : decode cX12_bests 139 = .ok (.if_icmp .ge 209, 3) := by decide +kernel
theorem dX12_bests_142 : decode cX12_bests 142 = .ok (.iconst 0, 1) := by decide +kernel
theorem dX12_bests_143 : decode cX12_bests 143 = .ok (.istore 6, 2) := by decide +kernel
theorem dX12_bests_145 : decode cX12_bests 145 = .ok (.iconst 0, 1) := by decide +kernel
theorem dX12_bests_146 : decode cX12_bests 146 = .ok (.istore 7, 2) := by decide +kernel
theorem dX12_bests_148 : decode cX12_bests 148 = .ok (.iconst 0, 1) := by decide +kernel
theorem dX12_bests_149 : decode cX12_bests 149 = .ok (.istore 8, 2) := by decide +kernel
theorem dX12_bests_151 : decode cX12_bests 151 = .ok (.lconst 0, 1) := by decide +kernel
theorem dX12_bests_152 : decode cX12_bests 152 = .ok (.lstore 9, 2) := by decide +kernel
theorem dX12_bests_154 : decode cX12_bests 154 = .ok (.iconst 1, 1) := by decide +kernel
theorem dX12_bests_155 : decode cX12_bests 155 = .ok (.istore 11, 2) := by decide +kernel
theorem dX12_bests_157 : decode cX12_bests 157 = .ok (.iconst 0, 1) := by decide +kernel
theorem dX12_bests_158 : decode cX12_bests 158 = .ok (.istore 12, 2) := by decide +kernel
theorem dX12_bests_160 : decode cX12_bests 160 = .ok (.iload 12, 2) := by decide +kernel
theorem dX12_bests_162 : decode cX12_bests 162 = .ok (.iload_n 2, 1) := by decide +kernel
theorem dX12_bests_163 : decode cX12_bests 163 = .ok (.if_icmp .ge 114, 3) := by decide +kernel
theorem dX12_bests_166 : decode cX12_bests 166 = .ok (.iload 5, 2) := by decide +kernel
theorem dX12_bests_168 : decode cX12_bests 168 = .ok (.iload 12, 2) := by decide +kernel
theorem dX12_bests_170 : decode cX12_bests 170 = .ok (.ishr, 1) := by decide +kernel
theorem dX12_bests_171 : decode cX12_bests 171 = .ok (.iconst 1, 1) := by decide +kernel
theorem dX12_bests_172 : decode cX12_bests 172 = .ok (.iand, 1) := by decide +kernel
theorem dX12_bests_173 : decode cX12_bests 173 = .ok (.ifCond .ne 6, 3) := by decide +kernel
theorem dX12_bests_176 : decode cX12_bests 176 = .ok (.goto 95, 3) := by decide +kernel
theorem dX12_bests_179 : decode cX12_bests 179 = .ok (.aload_n 0, 1) := by decide +kernel
theorem dX12_bests_180 : decode cX12_bests 180 = .ok (.getfield 92, 3) := by decide +kernel
theorem dX12_bests_183 : decode cX12_bests 183 = .ok (.iload 12, 2) := by decide +kernel
theorem dX12_bests_185 : decode cX12_bests 185 = .ok (.iaload, 1) := by decide +kernel
theorem dX12_bests_186 : decode cX12_bests 186 = .ok (.istore 13, 2) := by decide +kernel
