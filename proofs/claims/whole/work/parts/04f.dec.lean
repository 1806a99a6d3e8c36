theorem dX11_wire_9 : decode cX11_wire 9 = .ok (.bipush 6, 2) := by decide +kernel
theorem dX11_wire_11 : decode cX11_wire 11 = .ok (.invokestatic 65, 3) := by decide +kernel
theorem dX11_wire_14 : decode cX11_wire 14 = .ok (.ifCond .ne 9, 3) := by decide +kernel
theorem dX11_wire_17 : decode cX11_wire 17 = .ok (.aload_n 0, 1) := by decide +kernel
theorem dX11_wire_18 : decode cX11_wire 18 = .ok (.iconst (-1), 1) := by decide +kernel
theorem dX11_wire_19 : decode cX11_wire 19 = .ok (.invokevirtual 69, 3) := by decide +kernel
theorem dX11_wire_22 : decode cX11_wire 22 = .ok (.ireturn, 1) := by decide +kernel
theorem dX11_wire_23 : decode cX11_wire 23 = .ok (.aload_n 0, 1) := by decide +kernel
theorem dX11_wire_24 : decode cX11_wire 24 = .ok (.getfield 28, 3) := by decide +kernel
theorem dX11_wire_27 : decode cX11_wire 27 = .ok (.getfield 157, 3) := by decide +kernel
theorem dX11_wire_30 : decode cX11_wire 30 = .ok (.iload_n 1, 1) := by decide +kernel
theorem dX11_wire_31 : decode cX11_wire 31 = .ok (.iconst 2, 1) := by decide +kernel
theorem dX11_wire_32 : decode cX11_wire 32 = .ok (.idiv, 1) := by decide +kernel
theorem dX11_wire_33 : decode cX11_wire 33 = .ok (.invokevirtual 161, 3) := by decide +kernel
theorem dX11_wire_36 : decode cX11_wire 36 = .ok (.ifCond .eq 10, 3) := by decide +kernel
theorem dX11_wire_39 : decode cX11_wire 39 = .ok (.aload_n 0, 1) := by decide +kernel
theorem dX11_wire_40 : decode cX11_wire 40 = .ok (.bipush (-3), 2) := by decide +kernel
theorem dX11_wire_42 : decode cX11_wire 42 = .ok (.invokevirtual 69, 3) := by decide +kernel
theorem dX11_wire_45 : decode cX11_wire 45 = .ok (.ireturn, 1) := by decide +kernel
theorem dX11_wire_46 : decode cX11_wire 46 = .ok (.iload_n 3, 1) := by decide +kernel
theorem dX11_wire_47 : decode cX11_wire 47 = .ok (.ifCond .ge 10, 3) := by decide +kernel
theorem dX11_wire_50 : decode cX11_wire 50 = .ok (.aload_n 0, 1) := by decide +kernel
theorem dX11_wire_51 : decode cX11_wire 51 = .ok (.bipush (-4), 2) := by decide +kernel
theorem dX11_wire_53 : decode cX11_wire 53 = .ok (.invokevirtual 69, 3) := by decide +kernel
theorem dX11_wire_56 : decode cX11_wire 56 = .ok (.ireturn, 1) := by decide +kernel
theorem dX11_wire_57 : decode cX11_wire 57 = .ok (.iload_n 3, 1) := by decide +kernel
theorem dX11_wire_58 : decode cX11_wire 58 = .ok (.bipush 99, 2) := by decide +kernel
theorem dX11_wire_60 : decode cX11_wire 60 = .ok (.if_icmp .le 10, 3) := by decide +kernel
theorem dX11_wire_63 : decode cX11_wire 63 = .ok (.aload_n 0, 1) := by decide +kernel
theorem dX11_wire_64 : decode cX11_wire 64 = .ok (.bipush (-6), 2) := by decide +kernel
theorem dX11_wire_66 : decode cX11_wire 66 = .ok (.invokevirtual 69, 3) := by decide +kernel
theorem dX11_wire_69 : decode cX11_wire 69 = .ok (.ireturn, 1) := by decide +kernel
theorem dX11_wire_70 : decode cX11_wire 70 = .ok (.aload_n 0, 1) := by decide +kernel
theorem dX11_wire_71 : decode cX11_wire 71 = .ok (.getfield 28, 3) := by decide +kernel
theorem dX11_wire_74 : decode cX11_wire 74 = .ok (.getfield 142, 3) := by decide +kernel
theorem dX11_wire_77 : decode cX11_wire 77 = .ok (.iload_n 1, 1) := by decide +kernel
theorem dX11_wire_78 : decode cX11_wire 78 = .ok (.iload_n 2, 1) := by decide +kernel
theorem dX11_wire_79 : decode cX11_wire 79 = .ok (.invokevirtual 166, 3) := by decide +kernel
theorem dX11_wire_82 : decode cX11_wire 82 = .ok (.istore 4, 2) := by decide +kernel
theorem dX11_wire_84 : decode cX11_wire 84 = .ok (.aload_n 0, 1) := by decide +kernel
theorem dX11_wire_85 : decode cX11_wire 85 = .ok (.getfield 28, 3) := by decide +kernel
theorem dX11_wire_88 : decode cX11_wire 88 = .ok (.getfield 142, 3) := by decide +kernel
theorem dX11_wire_91 : decode cX11_wire 91 = .ok (.iload_n 1, 1) := by decide +kernel
theorem dX11_wire_92 : decode cX11_wire 92 = .ok (.iload_n 2, 1) := by decide +kernel
theorem dX11_wire_93 : decode cX11_wire 93 = .ok (.iload_n 3, 1) := by decide +kernel
theorem dX11_wire_94 : decode cX11_wire 94 = .ok (.invokevirtual 169, 3) := by decide +kernel
theorem dX11_wire_97 : decode cX11_wire 97 = .ok (.iload 4, 2) := by decide +kernel
theorem dX11_wire_99 : decode cX11_wire 99 = .ok (.ireturn, 1) := by decide +kernel
theorem dX11_mouldOf_0 : decode cX11_mouldOf 0 = .ok (.aload_n 0, 1) := by decide +kernel
theorem dX11_mouldOf_1 : decode cX11_mouldOf 1 = .ok (.iload_n 1, 1) := by decide +kernel
theorem dX11_mouldOf_2 : decode cX11_mouldOf 2 = .ok (.invokevirtual 154, 3) := by decide +kernel
theorem dX11_mouldOf_5 : decode cX11_mouldOf 5 = .ok (.ifCond .ne 9, 3) := by decide +kernel
theorem dX11_mouldOf_8 : decode cX11_mouldOf 8 = .ok (.aload_n 0, 1) := by decide +kernel
theorem dX11_mouldOf_9 : decode cX11_mouldOf 9 = .ok (.iconst (-1), 1) := by decide +kernel
theorem dX11_mouldOf_10 : decode cX11_mouldOf 10 = .ok (.invokevirtual 69, 3) := by decide +kernel
theorem dX11_mouldOf_13 : decode cX11_mouldOf 13 = .ok (.ireturn, 1) := by decide +kernel
theorem dX11_mouldOf_14 : decode cX11_mouldOf 14 = .ok (.iload_n 2, 1) := by decide +kernel
theorem dX11_mouldOf_15 : decode cX11_mouldOf 15 = .ok (.bipush 7, 2) := by decide +kernel
theorem dX11_mouldOf_17 : decode cX11_mouldOf 17 = .ok (.invokestatic 65, 3) := by decide +kernel
theorem dX11_mouldOf_20 : decode cX11_mouldOf 20 = .ok (.ifCond .ne 10, 3) := by decide +kernel
theorem dX11_mouldOf_23 : decode cX11_mouldOf 23 = .ok (.aload_n 0, 1) := by decide +kernel
theorem dX11_mouldOf_24 : decode cX11_mouldOf 24 = .ok (.bipush (-2), 2) := by decide +kernel
theorem dX11_mouldOf_26 : decode cX11_mouldOf 26 = .ok (.invokevirtual 69, 3) := by decide +kernel
theorem dX11_mouldOf_29 : decode cX11_mouldOf 29 = .ok (.ireturn, 1) := by decide +kernel
theorem dX11_mouldOf_30 : decode cX11_mouldOf 30 = .ok (.iload_n 2, 1) := by decide +kernel
theorem dX11_mouldOf_31 : decode cX11_mouldOf 31 = .ok (.bipush 6, 2) := by decide +kernel
theorem dX11_mouldOf_33 : decode cX11_mouldOf 33 = .ok (.if_icmp .ne 18, 3) := by decide +kernel
theorem dX11_mouldOf_36 : decode cX11_mouldOf 36 = .ok (.aload_n 0, 1) := by decide +kernel
theorem dX11_mouldOf_37 : decode cX11_mouldOf 37 = .ok (.getfield 28, 3) := by decide +kernel
theorem dX11_mouldOf_40 : decode cX11_mouldOf 40 = .ok (.getfield 142, 3) := by decide +kernel
theorem dX11_mouldOf_43 : decode cX11_mouldOf 43 = .ok (.getfield 172, 3) := by decide +kernel
theorem dX11_mouldOf_46 : decode cX11_mouldOf 46 = .ok (.iload_n 1, 1) := by decide +kernel
theorem dX11_mouldOf_47 : decode cX11_mouldOf 47 = .ok (.iaload, 1) := by decide +kernel
theorem dX11_mouldOf_48 : decode cX11_mouldOf 48 = .ok (.goto 15, 3) := by decide +kernel
theorem dX11_mouldOf_51 : decode cX11_mouldOf 51 = .ok (.aload_n 0, 1) := by decide +kernel
theorem dX11_mouldOf_52 : decode cX11_mouldOf 52 = .ok (.getfield 28, 3) := by decide +kernel
theorem dX11_mouldOf_55 : decode cX11_mouldOf 55 = .ok (.getfield 142, 3) := by decide +kernel
theorem dX11_mouldOf_58 : decode cX11_mouldOf 58 = .ok (.iload_n 1, 1) := by decide +kernel
theorem dX11_mouldOf_59 : decode cX11_mouldOf 59 = .ok (.iload_n 2, 1) := by decide +kernel
theorem dX11_mouldOf_60 : decode cX11_mouldOf 60 = .ok (.invokevirtual 166, 3) := by decide +kernel
theorem dX11_mouldOf_63 : decode cX11_mouldOf 63 = .ok (.ireturn, 1) := by decide +kernel
theorem dX11_vat_0 : decode cX11_vat 0 = .ok (.iload_n 1, 1) := by decide +kernel
theorem dX11_vat_1 : decode cX11_vat 1 = .ok (.iconst 3, 1) := by decide +kernel
theorem dX11_vat_2 : decode cX11_vat 2 = .ok (.invokestatic 65, 3) := by decide +kernel
theorem dX11_vat_5 : decode cX11_vat 5 = .ok (.ifCond .eq 25, 3) := by decide +kernel
theorem dX11_vat_8 : decode cX11_vat 8 = .ok (.iload_n 2, 1) := by decide +kernel
theorem dX11_vat_9 : decode cX11_vat 9 = .ok (.iconst (-1), 1) := by decide +kernel
theorem dX11_vat_10 : decode cX11_vat 10 = .ok (.if_icmp .eq 26, 3) := by decide +kernel
theorem dX11_vat_13 : decode cX11_vat 13 = .ok (.iload_n 2, 1) := by decide +kernel
theorem dX11_vat_14 : decode cX11_vat 14 = .ok (.aload_n 0, 1) := by decide +kernel
theorem dX11_vat_15 : decode cX11_vat 15 = .ok (.getfield 28, 3) := by decide +kernel
theorem dX11_vat_18 : decode cX11_vat 18 = .ok (.getfield 142, 3) := by decide +kernel
theorem dX11_vat_21 : decode cX11_vat 21 = .ok (.getfield 146, 3) := by decide +kernel
theorem dX11_vat_24 : decode cX11_vat 24 = .ok (.invokestatic 65, 3) := by decide +kernel
theorem dX11_vat_27 : decode cX11_vat 27 = .ok (.ifCond .ne 9, 3) := by decide +kernel
theorem dX11_vat_30 : decode cX11_vat 30 = .ok (.aload_n 0, 1) := by decide +kernel
theorem dX11_vat_31 : decode cX11_vat 31 = .ok (.iconst (-1), 1) := by decide +kernel
theorem dX11_vat_32 : decode cX11_vat 32 = .ok (.invokevirtual 69, 3) := by decide +kernel
theorem dX11_vat_35 : decode cX11_vat 35 = .ok (.ireturn, 1) := by decide +kernel
theorem dX11_vat_36 : decode cX11_vat 36 = .ok (.aload_n 0, 1) := by decide +kernel
theorem dX11_vat_37 : decode cX11_vat 37 = .ok (.getfield 28, 3) := by decide +kernel
theorem dX11_vat_40 : decode cX11_vat 40 = .ok (.getfield 157, 3) := by decide +kernel
theorem dX11_vat_43 : decode cX11_vat 43 = .ok (.getfield 175, 3) := by decide +kernel
theorem dX11_vat_46 : decode cX11_vat 46 = .ok (.iload_n 1, 1) := by decide +kernel
theorem dX11_vat_47 : decode cX11_vat 47 = .ok (.iaload, 1) := by decide +kernel
theorem dX11_vat_48 : decode cX11_vat 48 = .ok (.ifCond .gt 18, 3) := by decide +kernel
theorem dX11_vat_51 : decode cX11_vat 51 = .ok (.aload_n 0, 1) := by decide +kernel
theorem dX11_vat_52 : decode cX11_vat 52 = .ok (.getfield 28, 3) := by decide +kernel
theorem dX11_vat_55 : decode cX11_vat 55 = .ok (.getfield 157, 3) := by decide +kernel
theorem dX11_vat_58 : decode cX11_vat 58 = .ok (.iload_n 1, 1) := by decide +kernel
theorem dX11_vat_59 : decode cX11_vat 59 = .ok (.iload_n 2, 1) := by decide +kernel
theorem dX11_vat_60 : decode cX11_vat 60 = .ok (.invokevirtual 178, 3) := by decide +kernel
theorem dX11_vat_63 : decode cX11_vat 63 = .ok (.ifCond .eq 10, 3) := by decide +kernel
theorem dX11_vat_66 : decode cX11_vat 66 = .ok (.aload_n 0, 1) := by decide +kernel
theorem dX11_vat_67 : decode cX11_vat 67 = .ok (.bipush (-3), 2) := by decide +kernel
theorem dX11_vat_69 : decode cX11_vat 69 = .ok (.invokevirtual 69, 3) := by decide +kernel
theorem dX11_vat_72 : decode cX11_vat 72 = .ok (.ireturn, 1) := by decide +kernel
theorem dX11_vat_73 : decode cX11_vat 73 = .ok (.aload_n 0, 1) := by decide +kernel
theorem dX11_vat_74 : decode cX11_vat 74 = .ok (.getfield 28, 3) := by decide +kernel
theorem dX11_vat_77 : decode cX11_vat 77 = .ok (.getfield 157, 3) := by decide +kernel
theorem dX11_vat_80 : decode cX11_vat 80 = .ok (.getfield 181, 3) := by decide +kernel
theorem dX11_vat_83 : decode cX11_vat 83 = .ok (.iload_n 1, 1) := by decide +kernel
theorem dX11_vat_84 : decode cX11_vat 84 = .ok (.iload_n 2, 1) := by decide +kernel
theorem dX11_vat_85 : decode cX11_vat 85 = .ok (.iconst (-1), 1) := by decide +kernel
theorem dX11_vat_86 : decode cX11_vat 86 = .ok (.if_icmp .ne 8, 3) := by decide +kernel
theorem dX11_vat_89 : decode cX11_vat 89 = .ok (.bipush (-9), 2) := by decide +kernel
theorem dX11_vat_91 : decode cX11_vat 91 = .ok (.goto 4, 3) := by decide +kernel
theorem dX11_vat_94 : decode cX11_vat 94 = .ok (.iload_n 2, 1) := by decide +kernel
theorem dX11_vat_95 : decode cX11_vat 95 = .ok (.iastore, 1) := by decide +kernel
theorem dX11_vat_96 : decode cX11_vat 96 = .ok (.iconst 1, 1) := by decide +kernel
theorem dX11_vat_97 : decode cX11_vat 97 = .ok (.ireturn, 1) := by decide +kernel
theorem dX11_furnish_0 : decode cX11_furnish 0 = .ok (.iload_n 1, 1) := by decide +kernel
theorem dX11_furnish_1 : decode cX11_furnish 1 = .ok (.iconst 3, 1) := by decide +kernel
theorem dX11_furnish_2 : decode cX11_furnish 2 = .ok (.invokestatic 65, 3) := by decide +kernel
theorem dX11_furnish_5 : decode cX11_furnish 5 = .ok (.ifCond .eq 12, 3) := by decide +kernel
theorem dX11_furnish_8 : decode cX11_furnish 8 = .ok (.iload_n 2, 1) := by decide +kernel
theorem dX11_furnish_9 : decode cX11_furnish 9 = .ok (.bipush 9, 2) := by decide +kernel
theorem dX11_furnish_11 : decode cX11_furnish 11 = .ok (.invokestatic 65, 3) := by decide +kernel
theorem dX11_furnish_14 : decode cX11_furnish 14 = .ok (.ifCond .ne 9, 3) := by decide +kernel
theorem dX11_furnish_17 : decode cX11_furnish 17 = .ok (.aload_n 0, 1) := by decide +kernel
theorem dX11_furnish_18 : decode cX11_furnish 18 = .ok (.iconst (-1), 1) := by decide +kernel
theorem dX11_furnish_19 : decode cX11_furnish 19 = .ok (.invokevirtual 69, 3) := by decide +kernel
theorem dX11_furnish_22 : decode cX11_furnish 22 = .ok (.ireturn, 1) := by decide +kernel
theorem dX11_furnish_23 : decode cX11_furnish 23 = .ok (.aload_n 0, 1) := by decide +kernel
theorem dX11_furnish_24 : decode cX11_furnish 24 = .ok (.getfield 28, 3) := by decide +kernel
theorem dX11_furnish_27 : decode cX11_furnish 27 = .ok (.getfield 157, 3) := by decide +kernel
theorem dX11_furnish_30 : decode cX11_furnish 30 = .ok (.getfield 184, 3) := by decide +kernel
theorem dX11_furnish_33 : decode cX11_furnish 33 = .ok (.iload_n 1, 1) := by decide +kernel
theorem dX11_furnish_34 : decode cX11_furnish 34 = .ok (.iaload, 1) := by decide +kernel
theorem dX11_furnish_35 : decode cX11_furnish 35 = .ok (.istore_n 3, 1) := by decide +kernel
theorem dX11_furnish_36 : decode cX11_furnish 36 = .ok (.aload_n 0, 1) := by decide +kernel
theorem dX11_furnish_37 : decode cX11_furnish 37 = .ok (.getfield 28, 3) := by decide +kernel
theorem dX11_furnish_40 : decode cX11_furnish 40 = .ok (.getfield 157, 3) := by decide +kernel
theorem dX11_furnish_43 : decode cX11_furnish 43 = .ok (.getfield 184, 3) := by decide +kernel
theorem dX11_furnish_46 : decode cX11_furnish 46 = .ok (.iload_n 1, 1) := by decide +kernel
theorem dX11_furnish_47 : decode cX11_furnish 47 = .ok (.iload_n 2, 1) := by decide +kernel
theorem dX11_furnish_48 : decode cX11_furnish 48 = .ok (.iastore, 1) := by decide +kernel
theorem dX11_furnish_49 : decode cX11_furnish 49 = .ok (.iload_n 3, 1) := by decide +kernel
theorem dX11_furnish_50 : decode cX11_furnish 50 = .ok (.ireturn, 1) := by decide +kernel
theorem dX11_loft_0 : decode cX11_loft 0 = .ok (.iload_n 1, 1) := by decide +kernel
theorem dX11_loft_1 : decode cX11_loft 1 = .ok (.ifCond .ge 10, 3) := by decide +kernel
theorem dX11_loft_4 : decode cX11_loft 4 = .ok (.aload_n 0, 1) := by decide +kernel
theorem dX11_loft_5 : decode cX11_loft 5 = .ok (.bipush (-4), 2) := by decide +kernel
theorem dX11_loft_7 : decode cX11_loft 7 = .ok (.invokevirtual 69, 3) := by decide +kernel
theorem dX11_loft_10 : decode cX11_loft 10 = .ok (.ireturn, 1) := by decide +kernel
theorem dX11_loft_11 : decode cX11_loft 11 = .ok (.iload_n 1, 1) := by decide +kernel
theorem dX11_loft_12 : decode cX11_loft 12 = .ok (.bipush 40, 2) := by decide +kernel
theorem dX11_loft_14 : decode cX11_loft 14 = .ok (.if_icmp .le 10, 3) := by decide +kernel
theorem dX11_loft_17 : decode cX11_loft 17 = .ok (.aload_n 0, 1) := by decide +kernel
theorem dX11_loft_18 : decode cX11_loft 18 = .ok (.bipush (-6), 2) := by decide +kernel
theorem dX11_loft_20 : decode cX11_loft 20 = .ok (.invokevirtual 69, 3) := by decide +kernel
theorem dX11_loft_23 : decode cX11_loft 23 = .ok (.ireturn, 1) := by decide +kernel
theorem dX11_loft_24 : decode cX11_loft 24 = .ok (.aload_n 0, 1) := by decide +kernel
theorem dX11_loft_25 : decode cX11_loft 25 = .ok (.getfield 28, 3) := by decide +kernel
theorem dX11_loft_28 : decode cX11_loft 28 = .ok (.getfield 44, 3) := by decide +kernel
theorem dX11_loft_31 : decode cX11_loft 31 = .ok (.getfield 185, 3) := by decide +kernel
theorem dX11_loft_34 : decode cX11_loft 34 = .ok (.istore_n 2, 1) := by decide +kernel
theorem dX11_loft_35 : decode cX11_loft 35 = .ok (.aload_n 0, 1) := by decide +kernel
theorem dX11_loft_36 : decode cX11_loft 36 = .ok (.getfield 28, 3) := by decide +kernel
theorem dX11_loft_39 : decode cX11_loft 39 = .ok (.getfield 44, 3) := by decide +kernel
theorem dX11_loft_42 : decode cX11_loft 42 = .ok (.iload_n 1, 1) := by decide +kernel
theorem dX11_loft_43 : decode cX11_loft 43 = .ok (.putfield 185, 3) := by decide +kernel
theorem dX11_loft_46 : decode cX11_loft 46 = .ok (.iload_n 2, 1) := by decide +kernel
theorem dX11_loft_47 : decode cX11_loft 47 = .ok (.ireturn, 1) := by decide +kernel
theorem dX11_hides_0 : decode cX11_hides 0 = .ok (.iload_n 1, 1) := by decide +kernel
theorem dX11_hides_1 : decode cX11_hides 1 = .ok (.iconst 1, 1) := by decide +kernel
theorem dX11_hides_2 : decode cX11_hides 2 = .ok (.if_icmp .ge 10, 3) := by decide +kernel
theorem dX11_hides_5 : decode cX11_hides 5 = .ok (.aload_n 0, 1) := by decide +kernel
theorem dX11_hides_6 : decode cX11_hides 6 = .ok (.bipush (-4), 2) := by decide +kernel
theorem dX11_hides_8 : decode cX11_hides 8 = .ok (.invokevirtual 69, 3) := by decide +kernel
theorem dX11_hides_11 : decode cX11_hides 11 = .ok (.ireturn, 1) := by decide +kernel
theorem dX11_hides_12 : decode cX11_hides 12 = .ok (.iload_n 1, 1) := by decide +kernel
theorem dX11_hides_13 : decode cX11_hides 13 = .ok (.sipush 1000, 3) := by decide +kernel
theorem dX11_hides_16 : decode cX11_hides 16 = .ok (.aload_n 0, 1) := by decide +kernel
theorem dX11_hides_17 : decode cX11_hides 17 = .ok (.getfield 190, 3) := by decide +kernel
theorem dX11_hides_20 : decode cX11_hides 20 = .ok (.isub, 1) := by decide +kernel
theorem dX11_hides_21 : decode cX11_hides 21 = .ok (.if_icmp .le 10, 3) := by decide +kernel
theorem dX11_hides_24 : decode cX11_hides 24 = .ok (.aload_n 0, 1) := by decide +kernel
theorem dX11_hides_25 : decode cX11_hides 25 = .ok (.bipush (-6), 2) := by decide +kernel
theorem dX11_hides_27 : decode cX11_hides 27 = .ok (.invokevirtual 69, 3) := by decide +kernel
theorem dX11_hides_30 : decode cX11_hides 30 = .ok (.ireturn, 1) := by decide +kernel
theorem dX11_hides_31 : decode cX11_hides 31 = .ok (.aload_n 0, 1) := by decide +kernel
theorem dX11_hides_32 : decode cX11_hides 32 = .ok (.dup, 1) := by decide +kernel
theorem dX11_hides_33 : decode cX11_hides 33 = .ok (.getfield 190, 3) := by decide +kernel
theorem dX11_hides_36 : decode cX11_hides 36 = .ok (.iload_n 1, 1) := by decide +kernel
theorem dX11_hides_37 : decode cX11_hides 37 = .ok (.iadd, 1) := by decide +kernel
theorem dX11_hides_38 : decode cX11_hides 38 = .ok (.putfield 190, 3) := by decide +kernel
theorem dX11_hides_41 : decode cX11_hides 41 = .ok (.aload_n 0, 1) := by decide +kernel
theorem dX11_hides_42 : decode cX11_hides 42 = .ok (.getfield 190, 3) := by decide +kernel
theorem dX11_hides_45 : decode cX11_hides 45 = .ok (.ireturn, 1) := by decide +kernel
theorem dX11_size_0 : decode cX11_size 0 = .ok (.iload_n 1, 1) := by decide +kernel
theorem dX11_size_1 : decode cX11_size 1 = .ok (.aload_n 0, 1) := by decide +kernel
theorem dX11_size_2 : decode cX11_size 2 = .ok (.getfield 28, 3) := by decide +kernel
theorem dX11_size_5 : decode cX11_size 5 = .ok (.getfield 44, 3) := by decide +kernel
theorem dX11_size_8 : decode cX11_size 8 = .ok (.getfield 193, 3) := by decide +kernel
theorem dX11_size_11 : decode cX11_size 11 = .ok (.invokestatic 65, 3) := by decide +kernel
theorem dX11_size_14 : decode cX11_size 14 = .ok (.ifCond .ne 9, 3) := by decide +kernel
theorem dX11_size_17 : decode cX11_size 17 = .ok (.aload_n 0, 1) := by decide +kernel
theorem dX11_size_18 : decode cX11_size 18 = .ok (.iconst (-1), 1) := by decide +kernel
theorem dX11_size_19 : decode cX11_size 19 = .ok (.invokevirtual 69, 3) := by decide +kernel
theorem dX11_size_22 : decode cX11_size 22 = .ok (.ireturn, 1) := by decide +kernel
theorem dX11_size_23 : decode cX11_size 23 = .ok (.aload_n 0, 1) := by decide +kernel
theorem dX11_size_24 : decode cX11_size 24 = .ok (.getfield 28, 3) := by decide +kernel
theorem dX11_size_27 : decode cX11_size 27 = .ok (.getfield 44, 3) := by decide +kernel
theorem dX11_size_30 : decode cX11_size 30 = .ok (.iload_n 1, 1) := by decide +kernel
theorem dX11_size_31 : decode cX11_size 31 = .ok (.invokevirtual 196, 3) := by decide +kernel
theorem dX11_size_34 : decode cX11_size 34 = .ok (.iconst 2, 1) := by decide +kernel
theorem dX11_size_35 : decode cX11_size 35 = .ok (.if_icmp .ne 10, 3) := by decide +kernel
theorem dX11_size_38 : decode cX11_size 38 = .ok (.aload_n 0, 1) := by decide +kernel
theorem dX11_size_39 : decode cX11_size 39 = .ok (.getfield 190, 3) := by decide +kernel
theorem dX11_size_42 : decode cX11_size 42 = .ok (.ifCond .ne 10, 3) := by decide +kernel
theorem dX11_size_45 : decode cX11_size 45 = .ok (.aload_n 0, 1) := by decide +kernel
theorem dX11_size_46 : decode cX11_size 46 = .ok (.bipush (-3), 2) := by decide +kernel
theorem dX11_size_48 : decode cX11_size 48 = .ok (.invokevirtual 69, 3) := by decide +kernel
theorem dX11_size_51 : decode cX11_size 51 = .ok (.ireturn, 1) := by decide +kernel
theorem dX11_size_52 : decode cX11_size 52 = .ok (.aload_n 0, 1) := by decide +kernel
theorem dX11_size_53 : decode cX11_size 53 = .ok (.iload_n 1, 1) := by decide +kernel
theorem dX11_size_54 : decode cX11_size 54 = .ok (.invokevirtual 199, 3) := by decide +kernel
theorem dX11_size_57 : decode cX11_size 57 = .ok (.ireturn, 1) := by decide +kernel
theorem dX11_sizeAll_0 : decode cX11_sizeAll 0 = .ok (.iconst 0, 1) := by decide +kernel
theorem dX11_sizeAll_1 : decode cX11_sizeAll 1 = .ok (.istore_n 1, 1) := by decide +kernel
theorem dX11_sizeAll_2 : decode cX11_sizeAll 2 = .ok (.iconst 0, 1) := by decide +kernel
theorem dX11_sizeAll_3 : decode cX11_sizeAll 3 = .ok (.istore_n 2, 1) := by decide +kernel
theorem dX11_sizeAll_4 : decode cX11_sizeAll 4 = .ok (.iload_n 2, 1) := by decide +kernel
theorem dX11_sizeAll_5 : decode cX11_sizeAll 5 = .ok (.aload_n 0, 1) := by decide +kernel
theorem dX11_sizeAll_6 : decode cX11_sizeAll 6 = .ok (.getfield 28, 3) := by decide +kernel
theorem dX11_sizeAll_9 : decode cX11_sizeAll 9 = .ok (.getfield 44, 3) := by decide +kernel
theorem dX11_sizeAll_12 : decode cX11_sizeAll 12 = .ok (.getfield 202, 3) := by decide +kernel
theorem dX11_sizeAll_15 : decode cX11_sizeAll 15 = .ok (.if_icmp .ge 40, 3) := by decide +kernel
theorem dX11_sizeAll_18 : decode cX11_sizeAll 18 = .ok (.aload_n 0, 1) := by decide +kernel
theorem dX11_sizeAll_19 : decode cX11_sizeAll 19 = .ok (.getfield 190, 3) := by decide +kernel
theorem dX11_sizeAll_22 : decode cX11_sizeAll 22 = .ok (.ifCond .le 33, 3) := by decide +kernel
theorem dX11_sizeAll_25 : decode cX11_sizeAll 25 = .ok (.aload_n 0, 1) := by decide +kernel
theorem dX11_sizeAll_26 : decode cX11_sizeAll 26 = .ok (.getfield 28, 3) := by decide +kernel
theorem dX11_sizeAll_29 : decode cX11_sizeAll 29 = .ok (.getfield 44, 3) := by decide +kernel
theorem dX11_sizeAll_32 : decode cX11_sizeAll 32 = .ok (.iload_n 2, 1) := by decide +kernel
theorem dX11_sizeAll_33 : decode cX11_sizeAll 33 = .ok (.invokevirtual 196, 3) := by decide +kernel
theorem dX11_sizeAll_36 : decode cX11_sizeAll 36 = .ok (.iconst 2, 1) := by decide +kernel
theorem dX11_sizeAll_37 : decode cX11_sizeAll 37 = .ok (.if_icmp .ne 12, 3) := by decide +kernel
theorem dX11_sizeAll_40 : decode cX11_sizeAll 40 = .ok (.aload_n 0, 1) := by decide +kernel
theorem dX11_sizeAll_41 : decode cX11_sizeAll 41 = .ok (.iload_n 2, 1) := by decide +kernel
theorem dX11_sizeAll_42 : decode cX11_sizeAll 42 = .ok (.invokevirtual 199, 3) := by decide +kernel
theorem dX11_sizeAll_45 : decode cX11_sizeAll 45 = .ok (.pop, 1) := by decide +kernel
theorem dX11_sizeAll_46 : decode cX11_sizeAll 46 = .ok (.iinc 1 1, 3) := by decide +kernel
theorem dX11_sizeAll_49 : decode cX11_sizeAll 49 = .ok (.iinc 2 1, 3) := by decide +kernel
theorem dX11_sizeAll_52 : decode cX11_sizeAll 52 = .ok (.goto (-48), 3) := by decide +kernel
theorem dX11_sizeAll_55 : decode cX11_sizeAll 55 = .ok (.iload_n 1, 1) := by decide +kernel
theorem dX11_sizeAll_56 : decode cX11_sizeAll 56 = .ok (.ireturn, 1) := by decide +kernel
theorem dX11_duty_0 : decode cX11_duty 0 = .ok (.iload_n 1, 1) := by decide +kernel
theorem dX11_duty_1 : decode cX11_duty 1 = .ok (.invokestatic 139, 3) := by decide +kernel
theorem dX11_duty_4 : decode cX11_duty 4 = .ok (.ifCond .ne 9, 3) := by decide +kernel
theorem dX11_duty_7 : decode cX11_duty 7 = .ok (.aload_n 0, 1) := by decide +kernel
theorem dX11_duty_8 : decode cX11_duty 8 = .ok (.iconst (-1), 1) := by decide +kernel
theorem dX11_duty_9 : decode cX11_duty 9 = .ok (.invokevirtual 69, 3) := by decide +kernel
theorem dX11_duty_12 : decode cX11_duty 12 = .ok (.ireturn, 1) := by decide +kernel
theorem dX11_duty_13 : decode cX11_duty 13 = .ok (.iload_n 2, 1) := by decide +kernel
theorem dX11_duty_14 : decode cX11_duty 14 = .ok (.ifCond .ge 10, 3) := by decide +kernel
theorem dX11_duty_17 : decode cX11_duty 17 = .ok (.aload_n 0, 1) := by decide +kernel
theorem dX11_duty_18 : decode cX11_duty 18 = .ok (.bipush (-4), 2) := by decide +kernel
theorem dX11_duty_20 : decode cX11_duty 20 = .ok (.invokevirtual 69, 3) := by decide +kernel
theorem dX11_duty_23 : decode cX11_duty 23 = .ok (.ireturn, 1) := by decide +kernel
theorem dX11_duty_24 : decode cX11_duty 24 = .ok (.iload_n 2, 1) := by decide +kernel
theorem dX11_duty_25 : decode cX11_duty 25 = .ok (.bipush 99, 2) := by decide +kernel
theorem dX11_duty_27 : decode cX11_duty 27 = .ok (.if_icmp .le 10, 3) := by decide +kernel
theorem dX11_duty_30 : decode cX11_duty 30 = .ok (.aload_n 0, 1) := by decide +kernel
theorem dX11_duty_31 : decode cX11_duty 31 = .ok (.bipush (-6), 2) := by decide +kernel
theorem dX11_duty_33 : decode cX11_duty 33 = .ok (.invokevirtual 69, 3) := by decide +kernel
theorem dX11_duty_36 : decode cX11_duty 36 = .ok (.ireturn, 1) := by decide +kernel
theorem dX11_duty_37 : decode cX11_duty 37 = .ok (.aload_n 0, 1) := by decide +kernel
theorem dX11_duty_38 : decode cX11_duty 38 = .ok (.getfield 55, 3) := by decide +kernel
theorem dX11_duty_41 : decode cX11_duty 41 = .ok (.iload_n 1, 1) := by decide +kernel
theorem dX11_duty_42 : decode cX11_duty 42 = .ok (.iaload, 1) := by decide +kernel
theorem dX11_duty_43 : decode cX11_duty 43 = .ok (.istore_n 3, 1) := by decide +kernel
theorem dX11_duty_44 : decode cX11_duty 44 = .ok (.aload_n 0, 1) := by decide +kernel
theorem dX11_duty_45 : decode cX11_duty 45 = .ok (.getfield 55, 3) := by decide +kernel
theorem dX11_duty_48 : decode cX11_duty 48 = .ok (.iload_n 1, 1) := by decide +kernel
theorem dX11_duty_49 : decode cX11_duty 49 = .ok (.iload_n 2, 1) := by decide +kernel
theorem dX11_duty_50 : decode cX11_duty 50 = .ok (.iastore, 1) := by decide +kernel
theorem dX11_duty_51 : decode cX11_duty 51 = .ok (.iload_n 3, 1) := by decide +kernel
theorem dX11_duty_52 : decode cX11_duty 52 = .ok (.ireturn, 1) := by decide +kernel
theorem dX11_order_0 : decode cX11_order 0 = .ok (.iload_n 1, 1) := by decide +kernel
theorem dX11_order_1 : decode cX11_order 1 = .ok (.bipush 9, 2) := by decide +kernel
theorem dX11_order_3 : decode cX11_order 3 = .ok (.invokestatic 65, 3) := by decide +kernel
theorem dX11_order_6 : decode cX11_order 6 = .ok (.ifCond .eq 10, 3) := by decide +kernel
theorem dX11_order_9 : decode cX11_order 9 = .ok (.iload_n 2, 1) := by decide +kernel
theorem dX11_order_10 : decode cX11_order 10 = .ok (.invokestatic 139, 3) := by decide +kernel
theorem dX11_order_13 : decode cX11_order 13 = .ok (.ifCond .ne 9, 3) := by decide +kernel
theorem dX11_order_16 : decode cX11_order 16 = .ok (.aload_n 0, 1) := by decide +kernel
theorem dX11_order_17 : decode cX11_order 17 = .ok (.iconst (-1), 1) := by decide +kernel
theorem dX11_order_18 : decode cX11_order 18 = .ok (.invokevirtual 69, 3) := by decide +kernel
theorem dX11_order_21 : decode cX11_order 21 = .ok (.ireturn, 1) := by decide +kernel
theorem dX11_order_22 : decode cX11_order 22 = .ok (.iload_n 3, 1) := by decide +kernel
theorem dX11_order_23 : decode cX11_order 23 = .ok (.iconst 1, 1) := by decide +kernel
theorem dX11_order_24 : decode cX11_order 24 = .ok (.if_icmp .lt 13, 3) := by decide +kernel
theorem dX11_order_27 : decode cX11_order 27 = .ok (.iload 4, 2) := by decide +kernel
theorem dX11_order_29 : decode cX11_order 29 = .ok (.ifCond .lt 8, 3) := by decide +kernel
theorem dX11_order_32 : decode cX11_order 32 = .ok (.iload 5, 2) := by decide +kernel
theorem dX11_order_34 : decode cX11_order 34 = .ok (.ifCond .ge 10, 3) := by decide +kernel
theorem dX11_order_37 : decode cX11_order 37 = .ok (.aload_n 0, 1) := by decide +kernel
theorem dX11_order_38 : decode cX11_order 38 = .ok (.bipush (-4), 2) := by decide +kernel
theorem dX11_order_40 : decode cX11_order 40 = .ok (.invokevirtual 69, 3) := by decide +kernel
theorem dX11_order_43 : decode cX11_order 43 = .ok (.ireturn, 1) := by decide +kernel
theorem dX11_order_44 : decode cX11_order 44 = .ok (.iload_n 3, 1) := by decide +kernel
theorem dX11_order_45 : decode cX11_order 45 = .ok (.bipush 20, 2) := by decide +kernel
theorem dX11_order_47 : decode cX11_order 47 = .ok (.if_icmp .gt 18, 3) := by decide +kernel
theorem dX11_order_50 : decode cX11_order 50 = .ok (.iload 4, 2) := by decide +kernel
theorem dX11_order_52 : decode cX11_order 52 = .ok (.bipush 101, 2) := by decide +kernel
theorem dX11_order_54 : decode cX11_order 54 = .ok (.if_icmp .ge 11, 3) := by decide +kernel
theorem dX11_order_57 : decode cX11_order 57 = .ok (.iload 5, 2) := by decide +kernel
theorem dX11_order_59 : decode cX11_order 59 = .ok (.sipush 999, 3) := by decide +kernel
theorem dX11_order_62 : decode cX11_order 62 = .ok (.if_icmp .le 10, 3) := by decide +kernel
theorem dX11_order_65 : decode cX11_order 65 = .ok (.aload_n 0, 1) := by decide +kernel
theorem dX11_order_66 : decode cX11_order 66 = .ok (.bipush (-6), 2) := by decide +kernel
theorem dX11_order_68 : decode cX11_order 68 = .ok (.invokevirtual 69, 3) := by decide +kernel
theorem dX11_order_71 : decode cX11_order 71 = .ok (.ireturn, 1) := by decide +kernel
theorem dX11_order_72 : decode cX11_order 72 = .ok (.aload_n 0, 1) := by decide +kernel
theorem dX11_order_73 : decode cX11_order 73 = .ok (.getfield 38, 3) := by decide +kernel
theorem dX11_order_76 : decode cX11_order 76 = .ok (.getfield 205, 3) := by decide +kernel
theorem dX11_order_79 : decode cX11_order 79 = .ok (.bipush 12, 2) := by decide +kernel
theorem dX11_order_81 : decode cX11_order 81 = .ok (.if_icmp .ne 10, 3) := by decide +kernel
theorem dX11_order_84 : decode cX11_order 84 = .ok (.aload_n 0, 1) := by decide +kernel
theorem dX11_order_85 : decode cX11_order 85 = .ok (.bipush (-6), 2) := by decide +kernel
theorem dX11_order_87 : decode cX11_order 87 = .ok (.invokevirtual 69, 3) := by decide +kernel
theorem dX11_order_90 : decode cX11_order 90 = .ok (.ireturn, 1) := by decide +kernel
theorem dX11_order_91 : decode cX11_order 91 = .ok (.aload_n 0, 1) := by decide +kernel
theorem dX11_order_92 : decode cX11_order 92 = .ok (.getfield 38, 3) := by decide +kernel
theorem dX11_order_95 : decode cX11_order 95 = .ok (.iload_n 1, 1) := by decide +kernel
theorem dX11_order_96 : decode cX11_order 96 = .ok (.iload_n 2, 1) := by decide +kernel
theorem dX11_order_97 : decode cX11_order 97 = .ok (.iload_n 3, 1) := by decide +kernel
theorem dX11_order_98 : decode cX11_order 98 = .ok (.iload 4, 2) := by decide +kernel
theorem dX11_order_100 : decode cX11_order 100 = .ok (.iload 5, 2) := by decide +kernel
theorem dX11_order_102 : decode cX11_order 102 = .ok (.invokevirtual 208, 3) := by decide +kernel
theorem dX11_order_105 : decode cX11_order 105 = .ok (.ireturn, 1) := by decide +kernel
theorem dX11_fill_0 : decode cX11_fill 0 = .ok (.iload_n 1, 1) := by decide +kernel
theorem dX11_fill_1 : decode cX11_fill 1 = .ok (.aload_n 0, 1) := by decide +kernel
theorem dX11_fill_2 : decode cX11_fill 2 = .ok (.getfield 38, 3) := by decide +kernel
theorem dX11_fill_5 : decode cX11_fill 5 = .ok (.getfield 205, 3) := by decide +kernel
theorem dX11_fill_8 : decode cX11_fill 8 = .ok (.invokestatic 65, 3) := by decide +kernel
theorem dX11_fill_11 : decode cX11_fill 11 = .ok (.ifCond .ne 12, 3) := by decide +kernel
theorem dX11_fill_14 : decode cX11_fill 14 = .ok (.ldc 211, 2) := by decide +kernel
theorem dX11_fill_16 : decode cX11_fill 16 = .ok (.aload_n 0, 1) := by decide +kernel
theorem dX11_fill_17 : decode cX11_fill 17 = .ok (.iconst (-1), 1) := by decide +kernel
theorem dX11_fill_18 : decode cX11_fill 18 = .ok (.invokevirtual 69, 3) := by decide +kernel
theorem dX11_fill_21 : decode cX11_fill 21 = .ok (.isub, 1) := by decide +kernel
theorem dX11_fill_22 : decode cX11_fill 22 = .ok (.ireturn, 1) := by decide +kernel
theorem dX11_fill_23 : decode cX11_fill 23 = .ok (.aload_n 0, 1) := by decide +kernel
theorem dX11_fill_24 : decode cX11_fill 24 = .ok (.getfield 38, 3) := by decide +kernel
theorem dX11_fill_27 : decode cX11_fill 27 = .ok (.getfield 212, 3) := by decide +kernel
theorem dX11_fill_30 : decode cX11_fill 30 = .ok (.iload_n 1, 1) := by decide +kernel
theorem dX11_fill_31 : decode cX11_fill 31 = .ok (.iaload, 1) := by decide +kernel
theorem dX11_fill_32 : decode cX11_fill 32 = .ok (.aload_n 0, 1) := by decide +kernel
theorem dX11_fill_33 : decode cX11_fill 33 = .ok (.getfield 38, 3) := by decide +kernel
theorem dX11_fill_36 : decode cX11_fill 36 = .ok (.getfield 213, 3) := by decide +kernel
theorem dX11_fill_39 : decode cX11_fill 39 = .ok (.iload_n 1, 1) := by decide +kernel
theorem dX11_fill_40 : decode cX11_fill 40 = .ok (.iaload, 1) := by decide +kernel
theorem dX11_fill_41 : decode cX11_fill 41 = .ok (.invokestatic 216, 3) := by decide +kernel
theorem dX11_fill_44 : decode cX11_fill 44 = .ok (.istore_n 2, 1) := by decide +kernel
theorem dX11_fill_45 : decode cX11_fill 45 = .ok (.aload_n 0, 1) := by decide +kernel
theorem dX11_fill_46 : decode cX11_fill 46 = .ok (.getfield 38, 3) := by decide +kernel
theorem dX11_fill_49 : decode cX11_fill 49 = .ok (.getfield 219, 3) := by decide +kernel
theorem dX11_fill_52 : decode cX11_fill 52 = .ok (.iload_n 1, 1) := by decide +kernel
theorem dX11_fill_53 : decode cX11_fill 53 = .ok (.iaload, 1) := by decide +kernel
theorem dX11_fill_54 : decode cX11_fill 54 = .ok (.sipush 480, 3) := by decide +kernel
theorem dX11_fill_57 : decode cX11_fill 57 = .ok (.imul, 1) := by decide +kernel
theorem dX11_fill_58 : decode cX11_fill 58 = .ok (.istore_n 3, 1) := by decide +kernel
theorem dX11_fill_59 : decode cX11_fill 59 = .ok (.aload_n 0, 1) := by decide +kernel
theorem dX11_fill_60 : decode cX11_fill 60 = .ok (.getfield 38, 3) := by decide +kernel
theorem dX11_fill_63 : decode cX11_fill 63 = .ok (.iload_n 1, 1) := by decide +kernel
theorem dX11_fill_64 : decode cX11_fill 64 = .ok (.invokevirtual 222, 3) := by decide +kernel
theorem dX11_fill_67 : decode cX11_fill 67 = .ok (.ifCond .eq 13, 3) := by decide +kernel
theorem dX11_fill_70 : decode cX11_fill 70 = .ok (.aload_n 0, 1) := by decide +kernel
theorem dX11_fill_71 : decode cX11_fill 71 = .ok (.getfield 59, 3) := by decide +kernel
theorem dX11_fill_74 : decode cX11_fill 74 = .ok (.iload_n 2, 1) := by decide +kernel
theorem dX11_fill_75 : decode cX11_fill 75 = .ok (.iaload, 1) := by decide +kernel
theorem dX11_fill_76 : decode cX11_fill 76 = .ok (.iload_n 3, 1) := by decide +kernel
theorem dX11_fill_77 : decode cX11_fill 77 = .ok (.if_icmp .ge 13, 3) := by decide +kernel
theorem dX11_fill_80 : decode cX11_fill 80 = .ok (.ldc 211, 2) := by decide +kernel
theorem dX11_fill_82 : decode cX11_fill 82 = .ok (.aload_n 0, 1) := by decide +kernel
theorem dX11_fill_83 : decode cX11_fill 83 = .ok (.bipush (-3), 2) := by decide +kernel
theorem dX11_fill_85 : decode cX11_fill 85 = .ok (.invokevirtual 69, 3) := by decide +kernel
theorem dX11_fill_88 : decode cX11_fill 88 = .ok (.isub, 1) := by decide +kernel
theorem dX11_fill_89 : decode cX11_fill 89 = .ok (.ireturn, 1) := by decide +kernel
theorem dX11_fill_90 : decode cX11_fill 90 = .ok (.aload_n 0, 1) := by decide +kernel
theorem dX11_fill_91 : decode cX11_fill 91 = .ok (.getfield 59, 3) := by decide +kernel
theorem dX11_fill_94 : decode cX11_fill 94 = .ok (.iload_n 2, 1) := by decide +kernel
theorem dX11_fill_95 : decode cX11_fill 95 = .ok (.dup2, 1) := by decide +kernel
theorem dX11_fill_96 : decode cX11_fill 96 = .ok (.iaload, 1) := by decide +kernel
theorem dX11_fill_97 : decode cX11_fill 97 = .ok (.iload_n 3, 1) := by decide +kernel
theorem dX11_fill_98 : decode cX11_fill 98 = .ok (.isub, 1) := by decide +kernel
theorem dX11_fill_99 : decode cX11_fill 99 = .ok (.iastore, 1) := by decide +kernel
theorem dX11_fill_100 : decode cX11_fill 100 = .ok (.aload_n 0, 1) := by decide +kernel
theorem dX11_fill_101 : decode cX11_fill 101 = .ok (.getfield 38, 3) := by decide +kernel
theorem dX11_fill_104 : decode cX11_fill 104 = .ok (.getfield 225, 3) := by decide +kernel
theorem dX11_fill_107 : decode cX11_fill 107 = .ok (.iload_n 1, 1) := by decide +kernel
theorem dX11_fill_108 : decode cX11_fill 108 = .ok (.aload_n 0, 1) := by decide +kernel
theorem dX11_fill_109 : decode cX11_fill 109 = .ok (.getfield 28, 3) := by decide +kernel
theorem dX11_fill_112 : decode cX11_fill 112 = .ok (.getfield 109, 3) := by decide +kernel
theorem dX11_fill_115 : decode cX11_fill 115 = .ok (.iastore, 1) := by decide +kernel
theorem dX11_fill_116 : decode cX11_fill 116 = .ok (.aload_n 0, 1) := by decide +kernel
theorem dX11_fill_117 : decode cX11_fill 117 = .ok (.getfield 38, 3) := by decide +kernel
theorem dX11_fill_120 : decode cX11_fill 120 = .ok (.iload_n 1, 1) := by decide +kernel
theorem dX11_fill_121 : decode cX11_fill 121 = .ok (.aload_n 0, 1) := by decide +kernel
theorem dX11_fill_122 : decode cX11_fill 122 = .ok (.getfield 28, 3) := by decide +kernel
theorem dX11_fill_125 : decode cX11_fill 125 = .ok (.invokevirtual 228, 3) := by decide +kernel
theorem dX11_fill_128 : decode cX11_fill 128 = .ok (.aload_n 0, 1) := by decide +kernel
theorem dX11_fill_129 : decode cX11_fill 129 = .ok (.getfield 55, 3) := by decide +kernel
theorem dX11_fill_132 : decode cX11_fill 132 = .ok (.aload_n 0, 1) := by decide +kernel
theorem dX11_fill_133 : decode cX11_fill 133 = .ok (.getfield 38, 3) := by decide +kernel
theorem dX11_fill_136 : decode cX11_fill 136 = .ok (.getfield 213, 3) := by decide +kernel
theorem dX11_fill_139 : decode cX11_fill 139 = .ok (.iload_n 1, 1) := by decide +kernel
theorem dX11_fill_140 : decode cX11_fill 140 = .ok (.iaload, 1) := by decide +kernel
theorem dX11_fill_141 : decode cX11_fill 141 = .ok (.iaload, 1) := by decide +kernel
theorem dX11_fill_142 : decode cX11_fill 142 = .ok (.invokevirtual 232, 3) := by decide +kernel
theorem dX11_fill_145 : decode cX11_fill 145 = .ok (.istore 4, 2) := by decide +kernel
theorem dX11_fill_147 : decode cX11_fill 147 = .ok (.aload_n 0, 1) := by decide +kernel
theorem dX11_fill_148 : decode cX11_fill 148 = .ok (.dup, 1) := by decide +kernel
theorem dX11_fill_149 : decode cX11_fill 149 = .ok (.getfield 235, 3) := by decide +kernel
theorem dX11_fill_152 : decode cX11_fill 152 = .ok (.iload 4, 2) := by decide +kernel
theorem dX11_fill_154 : decode cX11_fill 154 = .ok (.iadd, 1) := by decide +kernel
theorem dX11_fill_155 : decode cX11_fill 155 = .ok (.putfield 235, 3) := by decide +kernel
theorem dX11_fill_158 : decode cX11_fill 158 = .ok (.iload 4, 2) := by decide +kernel
theorem dX11_fill_160 : decode cX11_fill 160 = .ok (.ireturn, 1) := by decide +kernel
theorem dX11_best_0 : decode cX11_best 0 = .ok (.aload_n 0, 1) := by decide +kernel
theorem dX11_best_1 : decode cX11_best 1 = .ok (.iload_n 1, 1) := by decide +kernel
theorem dX11_best_2 : decode cX11_best 2 = .ok (.invokevirtual 238, 3) := by decide +kernel
theorem dX11_best_5 : decode cX11_best 5 = .ok (.istore_n 2, 1) := by decide +kernel
theorem dX11_best_6 : decode cX11_best 6 = .ok (.iload_n 2, 1) := by decide +kernel
theorem dX11_best_7 : decode cX11_best 7 = .ok (.ifCond .eq 9, 3) := by decide +kernel
theorem dX11_best_10 : decode cX11_best 10 = .ok (.aload_n 0, 1) := by decide +kernel
theorem dX11_best_11 : decode cX11_best 11 = .ok (.iload_n 2, 1) := by decide +kernel
theorem dX11_best_12 : decode cX11_best 12 = .ok (.invokevirtual 69, 3) := by decide +kernel
theorem dX11_best_15 : decode cX11_best 15 = .ok (.ireturn, 1) := by decide +kernel
theorem dX11_best_16 : decode cX11_best 16 = .ok (.aload_n 0, 1) := by decide +kernel
theorem dX11_best_17 : decode cX11_best 17 = .ok (.getfield 38, 3) := by decide +kernel
theorem dX11_best_20 : decode cX11_best 20 = .ok (.iload_n 1, 1) := by decide +kernel
theorem dX11_best_21 : decode cX11_best 21 = .ok (.aload_n 0, 1) := by decide +kernel
theorem dX11_best_22 : decode cX11_best 22 = .ok (.getfield 28, 3) := by decide +kernel
theorem dX11_best_25 : decode cX11_best 25 = .ok (.invokevirtual 228, 3) := by decide +kernel
theorem dX11_best_28 : decode cX11_best 28 = .ok (.iconst 1, 1) := by decide +kernel
theorem dX11_best_29 : decode cX11_best 29 = .ok (.iadd, 1) := by decide +kernel
theorem dX11_best_30 : decode cX11_best 30 = .ok (.invokevirtual 241, 3) := by decide +kernel
theorem dX11_best_33 : decode cX11_best 33 = .ok (.aload_n 0, 1) := by decide +kernel
theorem dX11_best_34 : decode cX11_best 34 = .ok (.getfield 38, 3) := by decide +kernel
theorem dX11_best_37 : decode cX11_best 37 = .ok (.getfield 245, 3) := by decide +kernel
theorem dX11_best_40 : decode cX11_best 40 = .ok (.ireturn, 1) := by decide +kernel
theorem dX11_bestWorth_0 : decode cX11_bestWorth 0 = .ok (.aload_n 0, 1) := by decide +kernel
theorem dX11_bestWorth_1 : decode cX11_bestWorth 1 = .ok (.iload_n 1, 1) := by decide +kernel
theorem dX11_bestWorth_2 : decode cX11_bestWorth 2 = .ok (.invokevirtual 238, 3) := by decide +kernel
theorem dX11_bestWorth_5 : decode cX11_bestWorth 5 = .ok (.istore_n 2, 1) := by decide +kernel
theorem dX11_bestWorth_6 : decode cX11_bestWorth 6 = .ok (.iload_n 2, 1) := by decide +kernel
theorem dX11_bestWorth_7 : decode cX11_bestWorth 7 = .ok (.ifCond .eq 9, 3) := by decide +kernel
theorem dX11_bestWorth_10 : decode cX11_bestWorth 10 = .ok (.aload_n 0, 1) := by decide +kernel
theorem dX11_bestWorth_11 : decode cX11_bestWorth 11 = .ok (.iload_n 2, 1) := by decide +kernel
theorem dX11_bestWorth_12 : decode cX11_bestWorth 12 = .ok (.invokevirtual 69, 3) := by decide +kernel
theorem dX11_bestWorth_15 : decode cX11_bestWorth 15 = .ok (.ireturn, 1) := by decide +kernel
theorem dX11_bestWorth_16 : decode cX11_bestWorth 16 = .ok (.aload_n 0, 1) := by decide +kernel
theorem dX11_bestWorth_17 : decode cX11_bestWorth 17 = .ok (.getfield 38, 3) := by decide +kernel
theorem dX11_bestWorth_20 : decode cX11_bestWorth 20 = .ok (.iload_n 1, 1) := by decide +kernel
theorem dX11_bestWorth_21 : decode cX11_bestWorth 21 = .ok (.aload_n 0, 1) := by decide +kernel
theorem dX11_bestWorth_22 : decode cX11_bestWorth 22 = .ok (.getfield 28, 3) := by decide +kernel
theorem dX11_bestWorth_25 : decode cX11_bestWorth 25 = .ok (.invokevirtual 228, 3) := by decide +kernel
theorem dX11_bestWorth_28 : decode cX11_bestWorth 28 = .ok (.iconst 1, 1) := by decide +kernel
theorem dX11_bestWorth_29 : decode cX11_bestWorth 29 = .ok (.iadd, 1) := by decide +kernel
theorem dX11_bestWorth_30 : decode cX11_bestWorth 30 = .ok (.invokevirtual 241, 3) := by decide +kernel
theorem dX11_bestWorth_33 : decode cX11_bestWorth 33 = .ok (.aload_n 0, 1) := by decide +kernel
theorem dX11_bestWorth_34 : decode cX11_bestWorth 34 = .ok (.getfield 38, 3) := by decide +kernel
theorem dX11_bestWorth_37 : decode cX11_bestWorth 37 = .ok (.getfield 248, 3) := by decide +kernel
theorem dX11_bestWorth_40 : decode cX11_bestWorth 40 = .ok (.ireturn, 1) := by decide +kernel
theorem dX11_hours_0 : decode cX11_hours 0 = .ok (.iload_n 1, 1) := by decide +kernel
theorem dX11_hours_1 : decode cX11_hours 1 = .ok (.iconst 1, 1) := by decide +kernel
theorem dX11_hours_2 : decode cX11_hours 2 = .ok (.if_icmp .ge 10, 3) := by decide +kernel
theorem dX11_hours_5 : decode cX11_hours 5 = .ok (.aload_n 0, 1) := by decide +kernel
theorem dX11_hours_6 : decode cX11_hours 6 = .ok (.bipush (-4), 2) := by decide +kernel
theorem dX11_hours_8 : decode cX11_hours 8 = .ok (.invokevirtual 69, 3) := by decide +kernel
theorem dX11_hours_11 : decode cX11_hours 11 = .ok (.ireturn, 1) := by decide +kernel
theorem dX11_hours_12 : decode cX11_hours 12 = .ok (.iload_n 1, 1) := by decide +kernel
theorem dX11_hours_13 : decode cX11_hours 13 = .ok (.sipush 2400, 3) := by decide +kernel
theorem dX11_hours_16 : decode cX11_hours 16 = .ok (.aload_n 0, 1) := by decide +kernel
theorem dX11_hours_17 : decode cX11_hours 17 = .ok (.getfield 28, 3) := by decide +kernel
theorem dX11_hours_20 : decode cX11_hours 20 = .ok (.getfield 109, 3) := by decide +kernel
theorem dX11_hours_23 : decode cX11_hours 23 = .ok (.isub, 1) := by decide +kernel
theorem dX11_hours_24 : decode cX11_hours 24 = .ok (.if_icmp .le 10, 3) := by decide +kernel
theorem dX11_hours_27 : decode cX11_hours 27 = .ok (.aload_n 0, 1) := by decide +kernel
theorem dX11_hours_28 : decode cX11_hours 28 = .ok (.bipush (-6), 2) := by decide +kernel
theorem dX11_hours_30 : decode cX11_hours 30 = .ok (.invokevirtual 69, 3) := by decide +kernel
theorem dX11_hours_33 : decode cX11_hours 33 = .ok (.ireturn, 1) := by decide +kernel
theorem dX11_hours_34 : decode cX11_hours 34 = .ok (.aload_n 0, 1) := by decide +kernel
theorem dX11_hours_35 : decode cX11_hours 35 = .ok (.getfield 28, 3) := by decide +kernel
theorem dX11_hours_38 : decode cX11_hours 38 = .ok (.getfield 44, 3) := by decide +kernel
theorem dX11_hours_41 : decode cX11_hours 41 = .ok (.getfield 193, 3) := by decide +kernel
theorem dX11_hours_44 : decode cX11_hours 44 = .ok (.istore_n 2, 1) := by decide +kernel
theorem dX11_hours_45 : decode cX11_hours 45 = .ok (.aload_n 0, 1) := by decide +kernel
theorem dX11_hours_46 : decode cX11_hours 46 = .ok (.getfield 28, 3) := by decide +kernel
theorem dX11_hours_49 : decode cX11_hours 49 = .ok (.iload_n 1, 1) := by decide +kernel
theorem dX11_hours_50 : decode cX11_hours 50 = .ok (.invokevirtual 251, 3) := by decide +kernel
theorem dX11_hours_53 : decode cX11_hours 53 = .ok (.aload_n 0, 1) := by decide +kernel
theorem dX11_hours_54 : decode cX11_hours 54 = .ok (.getfield 28, 3) := by decide +kernel
theorem dX11_hours_57 : decode cX11_hours 57 = .ok (.getfield 44, 3) := by decide +kernel
theorem dX11_hours_60 : decode cX11_hours 60 = .ok (.getfield 193, 3) := by decide +kernel
theorem dX11_hours_63 : decode cX11_hours 63 = .ok (.iload_n 2, 1) := by decide +kernel
theorem dX11_hours_64 : decode cX11_hours 64 = .ok (.isub, 1) := by decide +kernel
theorem dX11_hours_65 : decode cX11_hours 65 = .ok (.ireturn, 1) := by decide +kernel
theorem dX11_foretell_0 : decode cX11_foretell 0 = .ok (.iload_n 2, 1) := by decide +kernel
theorem dX11_foretell_1 : decode cX11_foretell 1 = .ok (.iconst 5, 1) := by decide +kernel
theorem dX11_foretell_2 : decode cX11_foretell 2 = .ok (.invokestatic 65, 3) := by decide +kernel
theorem dX11_foretell_5 : decode cX11_foretell 5 = .ok (.ifCond .ne 10, 3) := by decide +kernel
theorem dX11_foretell_8 : decode cX11_foretell 8 = .ok (.aload_n 0, 1) := by decide +kernel
theorem dX11_foretell_9 : decode cX11_foretell 9 = .ok (.bipush (-2), 2) := by decide +kernel
theorem dX11_foretell_11 : decode cX11_foretell 11 = .ok (.invokevirtual 69, 3) := by decide +kernel
theorem dX11_foretell_14 : decode cX11_foretell 14 = .ok (.ireturn, 1) := by decide +kernel
theorem dX11_foretell_15 : decode cX11_foretell 15 = .ok (.iload_n 1, 1) := by decide +kernel
theorem dX11_foretell_16 : decode cX11_foretell 16 = .ok (.iconst 1, 1) := by decide +kernel
theorem dX11_foretell_17 : decode cX11_foretell 17 = .ok (.if_icmp .ge 10, 3) := by decide +kernel
theorem dX11_foretell_20 : decode cX11_foretell 20 = .ok (.aload_n 0, 1) := by decide +kernel
theorem dX11_foretell_21 : decode cX11_foretell 21 = .ok (.bipush (-4), 2) := by decide +kernel
theorem dX11_foretell_23 : decode cX11_foretell 23 = .ok (.invokevirtual 69, 3) := by decide +kernel
theorem dX11_foretell_26 : decode cX11_foretell 26 = .ok (.ireturn, 1) := by decide +kernel
theorem dX11_foretell_27 : decode cX11_foretell 27 = .ok (.iload_n 1, 1) := by decide +kernel
theorem dX11_foretell_28 : decode cX11_foretell 28 = .ok (.sipush 240, 3) := by decide +kernel
theorem dX11_foretell_31 : decode cX11_foretell 31 = .ok (.if_icmp .gt 18, 3) := by decide +kernel
theorem dX11_foretell_34 : decode cX11_foretell 34 = .ok (.iload_n 1, 1) := by decide +kernel
theorem dX11_foretell_35 : decode cX11_foretell 35 = .ok (.sipush 2400, 3) := by decide +kernel
theorem dX11_foretell_38 : decode cX11_foretell 38 = .ok (.aload_n 0, 1) := by decide +kernel
theorem dX11_foretell_39 : decode cX11_foretell 39 = .ok (.getfield 28, 3) := by decide +kernel
theorem dX11_foretell_42 : decode cX11_foretell 42 = .ok (.getfield 109, 3) := by decide +kernel
theorem dX11_foretell_45 : decode cX11_foretell 45 = .ok (.isub, 1) := by decide +kernel
theorem dX11_foretell_46 : decode cX11_foretell 46 = .ok (.if_icmp .le 10, 3) := by decide +kernel
theorem dX11_foretell_49 : decode cX11_foretell 49 = .ok (.aload_n 0, 1) := by decide +kernel
theorem dX11_foretell_50 : decode cX11_foretell 50 = .ok (.bipush (-6), 2) := by decide +kernel
theorem dX11_foretell_52 : decode cX11_foretell 52 = .ok (.invokevirtual 69, 3) := by decide +kernel
theorem dX11_foretell_55 : decode cX11_foretell 55 = .ok (.ireturn, 1) := by decide +kernel
theorem dX11_foretell_56 : decode cX11_foretell 56 = .ok (.aload_n 0, 1) := by decide +kernel
theorem dX11_foretell_57 : decode cX11_foretell 57 = .ok (.getfield 32, 3) := by decide +kernel
theorem dX11_foretell_60 : decode cX11_foretell 60 = .ok (.aload_n 0, 1) := by decide +kernel
theorem dX11_foretell_61 : decode cX11_foretell 61 = .ok (.getfield 28, 3) := by decide +kernel
theorem dX11_foretell_64 : decode cX11_foretell 64 = .ok (.invokevirtual 255, 3) := by decide +kernel
theorem dX11_foretell_67 : decode cX11_foretell 67 = .ok (.aload_n 0, 1) := by decide +kernel
theorem dX11_foretell_68 : decode cX11_foretell 68 = .ok (.getfield 32, 3) := by decide +kernel
theorem dX11_foretell_71 : decode cX11_foretell 71 = .ok (.iload_n 1, 1) := by decide +kernel
theorem dX11_foretell_72 : decode cX11_foretell 72 = .ok (.invokevirtual 251, 3) := by decide +kernel
theorem dX11_foretell_75 : decode cX11_foretell 75 = .ok (.iload_n 2, 1) := by decide +kernel
theorem dX11_foretell_76 : decode cX11_foretell 76 = .ok (.tableswitch 76 0 3 #[32, 43, 54, 65], 32) := by decide +kernel
theorem dX11_foretell_108 : decode cX11_foretell 108 = .ok (.aload_n 0, 1) := by decide +kernel
theorem dX11_foretell_109 : decode cX11_foretell 109 = .ok (.getfield 32, 3) := by decide +kernel
theorem dX11_foretell_112 : decode cX11_foretell 112 = .ok (.getfield 44, 3) := by decide +kernel
theorem dX11_foretell_115 : decode cX11_foretell 115 = .ok (.getfield 193, 3) := by decide +kernel
theorem dX11_foretell_118 : decode cX11_foretell 118 = .ok (.ireturn, 1) := by decide +kernel
theorem dX11_foretell_119 : decode cX11_foretell 119 = .ok (.aload_n 0, 1) := by decide +kernel
theorem dX11_foretell_120 : decode cX11_foretell 120 = .ok (.getfield 32, 3) := by decide +kernel
theorem dX11_foretell_123 : decode cX11_foretell 123 = .ok (.getfield 44, 3) := by decide +kernel
theorem dX11_foretell_126 : decode cX11_foretell 126 = .ok (.getfield 202, 3) := by decide +kernel
theorem dX11_foretell_129 : decode cX11_foretell 129 = .ok (.ireturn, 1) := by decide +kernel
theorem dX11_foretell_130 : decode cX11_foretell 130 = .ok (.aload_n 0, 1) := by decide +kernel
theorem dX11_foretell_131 : decode cX11_foretell 131 = .ok (.getfield 32, 3) := by decide +kernel
theorem dX11_foretell_134 : decode cX11_foretell 134 = .ok (.getfield 157, 3) := by decide +kernel
theorem dX11_foretell_137 : decode cX11_foretell 137 = .ok (.getfield 259, 3) := by decide +kernel
theorem dX11_foretell_140 : decode cX11_foretell 140 = .ok (.ireturn, 1) := by decide +kernel
theorem dX11_foretell_141 : decode cX11_foretell 141 = .ok (.aload_n 0, 1) := by decide +kernel
theorem dX11_foretell_142 : decode cX11_foretell 142 = .ok (.getfield 32, 3) := by decide +kernel
theorem dX11_foretell_145 : decode cX11_foretell 145 = .ok (.getfield 99, 3) := by decide +kernel
theorem dX11_foretell_148 : decode cX11_foretell 148 = .ok (.getfield 262, 3) := by decide +kernel
theorem dX11_foretell_151 : decode cX11_foretell 151 = .ok (.ireturn, 1) := by decide +kernel
theorem dX11_foretell_152 : decode cX11_foretell 152 = .ok (.aload_n 0, 1) := by decide +kernel
theorem dX11_foretell_153 : decode cX11_foretell 153 = .ok (.getfield 32, 3) := by decide +kernel
theorem dX11_foretell_156 : decode cX11_foretell 156 = .ok (.invokevirtual 265, 3) := by decide +kernel
theorem dX11_foretell_159 : decode cX11_foretell 159 = .ok (.ireturn, 1) := by decide +kernel
theorem dX11_when_0 : decode cX11_when 0 = .ok (.iload_n 1, 1) := by decide +kernel
theorem dX11_when_1 : decode cX11_when 1 = .ok (.ifCond .ge 10, 3) := by decide +kernel
theorem dX11_when_4 : decode cX11_when 4 = .ok (.aload_n 0, 1) := by decide +kernel
theorem dX11_when_5 : decode cX11_when 5 = .ok (.bipush (-4), 2) := by decide +kernel
theorem dX11_when_7 : decode cX11_when 7 = .ok (.invokevirtual 69, 3) := by decide +kernel
theorem dX11_when_10 : decode cX11_when 10 = .ok (.ireturn, 1) := by decide +kernel
theorem dX11_when_11 : decode cX11_when 11 = .ok (.iload_n 1, 1) := by decide +kernel
theorem dX11_when_12 : decode cX11_when 12 = .ok (.bipush 80, 2) := by decide +kernel
theorem dX11_when_14 : decode cX11_when 14 = .ok (.if_icmp .le 10, 3) := by decide +kernel
theorem dX11_when_17 : decode cX11_when 17 = .ok (.aload_n 0, 1) := by decide +kernel
theorem dX11_when_18 : decode cX11_when 18 = .ok (.bipush (-6), 2) := by decide +kernel
theorem dX11_when_20 : decode cX11_when 20 = .ok (.invokevirtual 69, 3) := by decide +kernel
theorem dX11_when_23 : decode cX11_when 23 = .ok (.ireturn, 1) := by decide +kernel
theorem dX11_when_24 : decode cX11_when 24 = .ok (.aload_n 0, 1) := by decide +kernel
theorem dX11_when_25 : decode cX11_when 25 = .ok (.getfield 32, 3) := by decide +kernel
theorem dX11_when_28 : decode cX11_when 28 = .ok (.aload_n 0, 1) := by decide +kernel
theorem dX11_when_29 : decode cX11_when 29 = .ok (.getfield 28, 3) := by decide +kernel
theorem dX11_when_32 : decode cX11_when 32 = .ok (.invokevirtual 255, 3) := by decide +kernel
theorem dX11_when_35 : decode cX11_when 35 = .ok (.aload_n 0, 1) := by decide +kernel
theorem dX11_when_36 : decode cX11_when 36 = .ok (.getfield 28, 3) := by decide +kernel
theorem dX11_when_39 : decode cX11_when 39 = .ok (.getfield 109, 3) := by decide +kernel
theorem dX11_when_42 : decode cX11_when 42 = .ok (.istore_n 2, 1) := by decide +kernel
theorem dX11_when_43 : decode cX11_when 43 = .ok (.iload_n 2, 1) := by decide +kernel
theorem dX11_when_44 : decode cX11_when 44 = .ok (.sipush 240, 3) := by decide +kernel
theorem dX11_when_47 : decode cX11_when 47 = .ok (.iadd, 1) := by decide +kernel
theorem dX11_when_48 : decode cX11_when 48 = .ok (.sipush 2400, 3) := by decide +kernel
theorem dX11_when_51 : decode cX11_when 51 = .ok (.invokestatic 268, 3) := by decide +kernel
theorem dX11_when_54 : decode cX11_when 54 = .ok (.istore_n 3, 1) := by decide +kernel
theorem dX11_when_55 : decode cX11_when 55 = .ok (.iload_n 2, 1) := by decide +kernel
theorem dX11_when_56 : decode cX11_when 56 = .ok (.iload_n 3, 1) := by decide +kernel
theorem dX11_when_57 : decode cX11_when 57 = .ok (.if_icmp .ge 31, 3) := by decide +kernel
theorem dX11_when_60 : decode cX11_when 60 = .ok (.aload_n 0, 1) := by decide +kernel
theorem dX11_when_61 : decode cX11_when 61 = .ok (.getfield 32, 3) := by decide +kernel
theorem dX11_when_64 : decode cX11_when 64 = .ok (.getfield 44, 3) := by decide +kernel
theorem dX11_when_67 : decode cX11_when 67 = .ok (.getfield 202, 3) := by decide +kernel
theorem dX11_when_70 : decode cX11_when 70 = .ok (.iload_n 1, 1) := by decide +kernel
theorem dX11_when_71 : decode cX11_when 71 = .ok (.if_icmp .ge 17, 3) := by decide +kernel
theorem dX11_when_74 : decode cX11_when 74 = .ok (.aload_n 0, 1) := by decide +kernel
theorem dX11_when_75 : decode cX11_when 75 = .ok (.getfield 32, 3) := by decide +kernel
theorem dX11_when_78 : decode cX11_when 78 = .ok (.iconst 1, 1) := by decide +kernel
theorem dX11_when_79 : decode cX11_when 79 = .ok (.invokevirtual 251, 3) := by decide +kernel
theorem dX11_when_82 : decode cX11_when 82 = .ok (.iinc 2 1, 3) := by decide +kernel
theorem dX11_when_85 : decode cX11_when 85 = .ok (.goto (-30), 3) := by decide +kernel
theorem dX11_when_88 : decode cX11_when 88 = .ok (.aload_n 0, 1) := by decide +kernel
theorem dX11_when_89 : decode cX11_when 89 = .ok (.getfield 32, 3) := by decide +kernel
theorem dX11_when_92 : decode cX11_when 92 = .ok (.getfield 44, 3) := by decide +kernel
theorem dX11_when_95 : decode cX11_when 95 = .ok (.getfield 202, 3) := by decide +kernel
theorem dX11_when_98 : decode cX11_when 98 = .ok (.iload_n 1, 1) := by decide +kernel
theorem dX11_when_99 : decode cX11_when 99 = .ok (.if_icmp .lt 7, 3) := by decide +kernel
theorem dX11_when_102 : decode cX11_when 102 = .ok (.iload_n 2, 1) := by decide +kernel
theorem dX11_when_103 : decode cX11_when 103 = .ok (.goto 5, 3) := by decide +kernel
theorem dX11_when_106 : decode cX11_when 106 = .ok (.bipush (-9), 2) := by decide +kernel
theorem dX11_when_108 : decode cX11_when 108 = .ok (.ireturn, 1) := by decide +kernel
theorem dX11_mark_0 : decode cX11_mark 0 = .ok (.iload_n 1, 1) := by decide +kernel
theorem dX11_mark_1 : decode cX11_mark 1 = .ok (.aload_n 0, 1) := by decide +kernel
theorem dX11_mark_2 : decode cX11_mark 2 = .ok (.getfield 28, 3) := by decide +kernel
theorem dX11_mark_5 : decode cX11_mark 5 = .ok (.getfield 44, 3) := by decide +kernel
theorem dX11_mark_8 : decode cX11_mark 8 = .ok (.getfield 193, 3) := by decide +kernel
theorem dX11_mark_11 : decode cX11_mark 11 = .ok (.invokestatic 65, 3) := by decide +kernel
theorem dX11_mark_14 : decode cX11_mark 14 = .ok (.ifCond .ne 9, 3) := by decide +kernel
theorem dX11_mark_17 : decode cX11_mark 17 = .ok (.aload_n 0, 1) := by decide +kernel
theorem dX11_mark_18 : decode cX11_mark 18 = .ok (.iconst (-1), 1) := by decide +kernel
theorem dX11_mark_19 : decode cX11_mark 19 = .ok (.invokevirtual 69, 3) := by decide +kernel
theorem dX11_mark_22 : decode cX11_mark 22 = .ok (.ireturn, 1) := by decide +kernel
theorem dX11_mark_23 : decode cX11_mark 23 = .ok (.iload_n 2, 1) := by decide +kernel
theorem dX11_mark_24 : decode cX11_mark 24 = .ok (.bipush 60, 2) := by decide +kernel
theorem dX11_mark_26 : decode cX11_mark 26 = .ok (.invokestatic 65, 3) := by decide +kernel
theorem dX11_mark_29 : decode cX11_mark 29 = .ok (.ifCond .eq 12, 3) := by decide +kernel
theorem dX11_mark_32 : decode cX11_mark 32 = .ok (.iload_n 3, 1) := by decide +kernel
theorem dX11_mark_33 : decode cX11_mark 33 = .ok (.bipush 6, 2) := by decide +kernel
theorem dX11_mark_35 : decode cX11_mark 35 = .ok (.invokestatic 65, 3) := by decide +kernel
theorem dX11_mark_38 : decode cX11_mark 38 = .ok (.ifCond .ne 9, 3) := by decide +kernel
theorem dX11_mark_41 : decode cX11_mark 41 = .ok (.aload_n 0, 1) := by decide +kernel
theorem dX11_mark_42 : decode cX11_mark 42 = .ok (.iconst (-1), 1) := by decide +kernel
theorem dX11_mark_43 : decode cX11_mark 43 = .ok (.invokevirtual 69, 3) := by decide +kernel
theorem dX11_mark_46 : decode cX11_mark 46 = .ok (.ireturn, 1) := by decide +kernel
theorem dX11_mark_47 : decode cX11_mark 47 = .ok (.aload_n 0, 1) := by decide +kernel
theorem dX11_mark_48 : decode cX11_mark 48 = .ok (.getfield 28, 3) := by decide +kernel
theorem dX11_mark_51 : decode cX11_mark 51 = .ok (.getfield 44, 3) := by decide +kernel
theorem dX11_mark_54 : decode cX11_mark 54 = .ok (.getfield 273, 3) := by decide +kernel
theorem dX11_mark_57 : decode cX11_mark 57 = .ok (.iload_n 1, 1) := by decide +kernel
theorem dX11_mark_58 : decode cX11_mark 58 = .ok (.iload_n 2, 1) := by decide +kernel
theorem dX11_mark_59 : decode cX11_mark 59 = .ok (.iload_n 3, 1) := by decide +kernel
theorem dX11_mark_60 : decode cX11_mark 60 = .ok (.invokevirtual 277, 3) := by decide +kernel
theorem dX11_mark_63 : decode cX11_mark 63 = .ok (.ireturn, 1) := by decide +kernel
theorem dX11_oldA_0 : decode cX11_oldA 0 = .ok (.aload_n 0, 1) := by decide +kernel
theorem dX11_oldA_1 : decode cX11_oldA 1 = .ok (.iconst 0, 1) := by decide +kernel
theorem dX11_oldA_2 : decode cX11_oldA 2 = .ok (.iload_n 1, 1) := by decide +kernel
theorem dX11_oldA_3 : decode cX11_oldA 3 = .ok (.iload_n 2, 1) := by decide +kernel
theorem dX11_oldA_4 : decode cX11_oldA 4 = .ok (.iload_n 3, 1) := by decide +kernel
theorem dX11_oldA_5 : decode cX11_oldA 5 = .ok (.invokevirtual 282, 3) := by decide +kernel
theorem dX11_oldA_8 : decode cX11_oldA 8 = .ok (.ireturn, 1) := by decide +kernel
theorem dX11_oldB_0 : decode cX11_oldB 0 = .ok (.aload_n 0, 1) := by decide +kernel
theorem dX11_oldB_1 : decode cX11_oldB 1 = .ok (.iconst 3, 1) := by decide +kernel
theorem dX11_oldB_2 : decode cX11_oldB 2 = .ok (.iload_n 1, 1) := by decide +kernel
theorem dX11_oldB_3 : decode cX11_oldB 3 = .ok (.iload_n 2, 1) := by decide +kernel
theorem dX11_oldB_4 : decode cX11_oldB 4 = .ok (.iload_n 3, 1) := by decide +kernel
theorem dX11_oldB_5 : decode cX11_oldB 5 = .ok (.invokevirtual 282, 3) := by decide +kernel
theorem dX11_oldB_8 : decode cX11_oldB 8 = .ok (.ireturn, 1) := by decide +kernel
theorem dX11_lies_0 : decode cX11_lies 0 = .ok (.iload_n 1, 1) := by decide +kernel
theorem dX11_lies_1 : decode cX11_lies 1 = .ok (.ifCond .ge 10, 3) := by decide +kernel
theorem dX11_lies_4 : decode cX11_lies 4 = .ok (.aload_n 0, 1) := by decide +kernel
theorem dX11_lies_5 : decode cX11_lies 5 = .ok (.bipush (-4), 2) := by decide +kernel
theorem dX11_lies_7 : decode cX11_lies 7 = .ok (.invokevirtual 69, 3) := by decide +kernel
theorem dX11_lies_10 : decode cX11_lies 10 = .ok (.ireturn, 1) := by decide +kernel
theorem dX11_lies_11 : decode cX11_lies 11 = .ok (.iload_n 1, 1) := by decide +kernel
theorem dX11_lies_12 : decode cX11_lies 12 = .ok (.bipush 99, 2) := by decide +kernel
theorem dX11_lies_14 : decode cX11_lies 14 = .ok (.if_icmp .le 10, 3) := by decide +kernel
theorem dX11_lies_17 : decode cX11_lies 17 = .ok (.aload_n 0, 1) := by decide +kernel
theorem dX11_lies_18 : decode cX11_lies 18 = .ok (.bipush (-6), 2) := by decide +kernel
theorem dX11_lies_20 : decode cX11_lies 20 = .ok (.invokevirtual 69, 3) := by decide +kernel
theorem dX11_lies_23 : decode cX11_lies 23 = .ok (.ireturn, 1) := by decide +kernel
theorem dX11_lies_24 : decode cX11_lies 24 = .ok (.aload_n 0, 1) := by decide +kernel
theorem dX11_lies_25 : decode cX11_lies 25 = .ok (.getfield 51, 3) := by decide +kernel
