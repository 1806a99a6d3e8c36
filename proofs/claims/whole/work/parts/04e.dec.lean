theorem dX9_init_27 : decode cX9_init 27 = .ok (.getfield 11, 3) := by decide +kernel
theorem dX9_init_30 : decode cX9_init 30 = .ok (.iconst 0, 1) := by decide +kernel
theorem dX9_init_31 : decode cX9_init 31 = .ok (.aaload, 1) := by decide +kernel
theorem dX9_init_32 : decode cX9_init 32 = .ok (.iconst (-1), 1) := by decide +kernel
theorem dX9_init_33 : decode cX9_init 33 = .ok (.invokestatic 19, 3) := by decide +kernel
theorem dX9_init_36 : decode cX9_init 36 = .ok (.aload_n 0, 1) := by decide +kernel
theorem dX9_init_37 : decode cX9_init 37 = .ok (.getfield 11, 3) := by decide +kernel
theorem dX9_init_40 : decode cX9_init 40 = .ok (.iconst 1, 1) := by decide +kernel
theorem dX9_init_41 : decode cX9_init 41 = .ok (.aaload, 1) := by decide +kernel
theorem dX9_init_42 : decode cX9_init 42 = .ok (.iconst (-1), 1) := by decide +kernel
theorem dX9_init_43 : decode cX9_init 43 = .ok (.invokestatic 19, 3) := by decide +kernel
theorem dX9_init_46 : decode cX9_init 46 = .ok (.aload_n 0, 1) := by decide +kernel
theorem dX9_init_47 : decode cX9_init 47 = .ok (.getfield 16, 3) := by decide +kernel
theorem dX9_init_50 : decode cX9_init 50 = .ok (.iconst 0, 1) := by decide +kernel
theorem dX9_init_51 : decode cX9_init 51 = .ok (.aaload, 1) := by decide +kernel
theorem dX9_init_52 : decode cX9_init 52 = .ok (.getstatic 25, 3) := by decide +kernel
theorem dX9_init_55 : decode cX9_init 55 = .ok (.iconst 0, 1) := by decide +kernel
theorem dX9_init_56 : decode cX9_init 56 = .ok (.iaload, 1) := by decide +kernel
theorem dX9_init_57 : decode cX9_init 57 = .ok (.invokestatic 19, 3) := by decide +kernel
theorem dX9_init_60 : decode cX9_init 60 = .ok (.aload_n 0, 1) := by decide +kernel
theorem dX9_init_61 : decode cX9_init 61 = .ok (.getfield 16, 3) := by decide +kernel
theorem dX9_init_64 : decode cX9_init 64 = .ok (.iconst 1, 1) := by decide +kernel
theorem dX9_init_65 : decode cX9_init 65 = .ok (.aaload, 1) := by decide +kernel
theorem dX9_init_66 : decode cX9_init 66 = .ok (.getstatic 25, 3) := by decide +kernel
theorem dX9_init_69 : decode cX9_init 69 = .ok (.iconst 1, 1) := by decide +kernel
theorem dX9_init_70 : decode cX9_init 70 = .ok (.iaload, 1) := by decide +kernel
theorem dX9_init_71 : decode cX9_init 71 = .ok (.invokestatic 19, 3) := by decide +kernel
theorem dX9_init_74 : decode cX9_init 74 = .ok (.return_, 1) := by decide +kernel
theorem dX9_on_0 : decode cX9_on 0 = .ok (.aload_n 0, 1) := by decide +kernel
theorem dX9_on_1 : decode cX9_on 1 = .ok (.getfield 16, 3) := by decide +kernel
theorem dX9_on_4 : decode cX9_on 4 = .ok (.iload_n 2, 1) := by decide +kernel
theorem dX9_on_5 : decode cX9_on 5 = .ok (.aaload, 1) := by decide +kernel
theorem dX9_on_6 : decode cX9_on 6 = .ok (.iload_n 1, 1) := by decide +kernel
theorem dX9_on_7 : decode cX9_on 7 = .ok (.iaload, 1) := by decide +kernel
theorem dX9_on_8 : decode cX9_on 8 = .ok (.ireturn, 1) := by decide +kernel
theorem dX9_tell_0 : decode cX9_tell 0 = .ok (.aload_n 0, 1) := by decide +kernel
theorem dX9_tell_1 : decode cX9_tell 1 = .ok (.getfield 11, 3) := by decide +kernel
theorem dX9_tell_4 : decode cX9_tell 4 = .ok (.iload_n 2, 1) := by decide +kernel
theorem dX9_tell_5 : decode cX9_tell 5 = .ok (.aaload, 1) := by decide +kernel
theorem dX9_tell_6 : decode cX9_tell 6 = .ok (.iload_n 1, 1) := by decide +kernel
theorem dX9_tell_7 : decode cX9_tell 7 = .ok (.iload_n 3, 1) := by decide +kernel
theorem dX9_tell_8 : decode cX9_tell 8 = .ok (.iastore, 1) := by decide +kernel
theorem dX9_tell_9 : decode cX9_tell 9 = .ok (.aload_n 0, 1) := by decide +kernel
theorem dX9_tell_10 : decode cX9_tell 10 = .ok (.getfield 11, 3) := by decide +kernel
theorem dX9_tell_13 : decode cX9_tell 13 = .ok (.iload_n 2, 1) := by decide +kernel
theorem dX9_tell_14 : decode cX9_tell 14 = .ok (.aaload, 1) := by decide +kernel
theorem dX9_tell_15 : decode cX9_tell 15 = .ok (.aload_n 0, 1) := by decide +kernel
theorem dX9_tell_16 : decode cX9_tell 16 = .ok (.getfield 16, 3) := by decide +kernel
theorem dX9_tell_19 : decode cX9_tell 19 = .ok (.iload_n 2, 1) := by decide +kernel
theorem dX9_tell_20 : decode cX9_tell 20 = .ok (.aaload, 1) := by decide +kernel
theorem dX9_tell_21 : decode cX9_tell 21 = .ok (.getstatic 25, 3) := by decide +kernel
theorem dX9_tell_24 : decode cX9_tell 24 = .ok (.iload_n 2, 1) := by decide +kernel
theorem dX9_tell_25 : decode cX9_tell 25 = .ok (.iaload, 1) := by decide +kernel
theorem dX9_tell_26 : decode cX9_tell 26 = .ok (.invokestatic 29, 3) := by decide +kernel
theorem dX9_tell_29 : decode cX9_tell 29 = .ok (.return_, 1) := by decide +kernel
theorem dX9_reckon_0 : decode cX9_reckon 0 = .ok (.iconst (-1), 1) := by decide +kernel
theorem dX9_reckon_1 : decode cX9_reckon 1 = .ok (.istore_n 3, 1) := by decide +kernel
theorem dX9_reckon_2 : decode cX9_reckon 2 = .ok (.iconst 0, 1) := by decide +kernel
theorem dX9_reckon_3 : decode cX9_reckon 3 = .ok (.istore 4, 2) := by decide +kernel
theorem dX9_reckon_5 : decode cX9_reckon 5 = .ok (.iload 4, 2) := by decide +kernel
theorem dX9_reckon_7 : decode cX9_reckon 7 = .ok (.bipush 101, 2) := by decide +kernel
theorem dX9_reckon_9 : decode cX9_reckon 9 = .ok (.if_icmp .ge 27, 3) := by decide +kernel
theorem dX9_reckon_12 : decode cX9_reckon 12 = .ok (.aload_n 0, 1) := by decide +kernel
theorem dX9_reckon_13 : decode cX9_reckon 13 = .ok (.iload 4, 2) := by decide +kernel
theorem dX9_reckon_15 : decode cX9_reckon 15 = .ok (.iaload, 1) := by decide +kernel
theorem dX9_reckon_16 : decode cX9_reckon 16 = .ok (.iconst (-1), 1) := by decide +kernel
theorem dX9_reckon_17 : decode cX9_reckon 17 = .ok (.if_icmp .eq 8, 3) := by decide +kernel
theorem dX9_reckon_20 : decode cX9_reckon 20 = .ok (.aload_n 0, 1) := by decide +kernel
theorem dX9_reckon_21 : decode cX9_reckon 21 = .ok (.iload 4, 2) := by decide +kernel
theorem dX9_reckon_23 : decode cX9_reckon 23 = .ok (.iaload, 1) := by decide +kernel
theorem dX9_reckon_24 : decode cX9_reckon 24 = .ok (.istore_n 3, 1) := by decide +kernel
theorem dX9_reckon_25 : decode cX9_reckon 25 = .ok (.aload_n 1, 1) := by decide +kernel
theorem dX9_reckon_26 : decode cX9_reckon 26 = .ok (.iload 4, 2) := by decide +kernel
theorem dX9_reckon_28 : decode cX9_reckon 28 = .ok (.iload_n 3, 1) := by decide +kernel
theorem dX9_reckon_29 : decode cX9_reckon 29 = .ok (.iastore, 1) := by decide +kernel
theorem dX9_reckon_30 : decode cX9_reckon 30 = .ok (.iinc 4 1, 3) := by decide +kernel
theorem dX9_reckon_33 : decode cX9_reckon 33 = .ok (.goto (-28), 3) := by decide +kernel
theorem dX9_reckon_36 : decode cX9_reckon 36 = .ok (.iconst (-1), 1) := by decide +kernel
theorem dX9_reckon_37 : decode cX9_reckon 37 = .ok (.istore 4, 2) := by decide +kernel
theorem dX9_reckon_39 : decode cX9_reckon 39 = .ok (.bipush 100, 2) := by decide +kernel
theorem dX9_reckon_41 : decode cX9_reckon 41 = .ok (.istore 5, 2) := by decide +kernel
theorem dX9_reckon_43 : decode cX9_reckon 43 = .ok (.iload 5, 2) := by decide +kernel
theorem dX9_reckon_45 : decode cX9_reckon 45 = .ok (.ifCond .lt 37, 3) := by decide +kernel
theorem dX9_reckon_48 : decode cX9_reckon 48 = .ok (.aload_n 0, 1) := by decide +kernel
theorem dX9_reckon_49 : decode cX9_reckon 49 = .ok (.iload 5, 2) := by decide +kernel
theorem dX9_reckon_51 : decode cX9_reckon 51 = .ok (.iaload, 1) := by decide +kernel
theorem dX9_reckon_52 : decode cX9_reckon 52 = .ok (.iconst (-1), 1) := by decide +kernel
theorem dX9_reckon_53 : decode cX9_reckon 53 = .ok (.if_icmp .eq 9, 3) := by decide +kernel
theorem dX9_reckon_56 : decode cX9_reckon 56 = .ok (.aload_n 0, 1) := by decide +kernel
theorem dX9_reckon_57 : decode cX9_reckon 57 = .ok (.iload 5, 2) := by decide +kernel
theorem dX9_reckon_59 : decode cX9_reckon 59 = .ok (.iaload, 1) := by decide +kernel
theorem dX9_reckon_60 : decode cX9_reckon 60 = .ok (.istore 4, 2) := by decide +kernel
theorem dX9_reckon_62 : decode cX9_reckon 62 = .ok (.aload_n 1, 1) := by decide +kernel
theorem dX9_reckon_63 : decode cX9_reckon 63 = .ok (.iload 5, 2) := by decide +kernel
theorem dX9_reckon_65 : decode cX9_reckon 65 = .ok (.aload_n 1, 1) := by decide +kernel
theorem dX9_reckon_66 : decode cX9_reckon 66 = .ok (.iload 5, 2) := by decide +kernel
theorem dX9_reckon_68 : decode cX9_reckon 68 = .ok (.iaload, 1) := by decide +kernel
theorem dX9_reckon_69 : decode cX9_reckon 69 = .ok (.iload 4, 2) := by decide +kernel
theorem dX9_reckon_71 : decode cX9_reckon 71 = .ok (.iload_n 2, 1) := by decide +kernel
theorem dX9_reckon_72 : decode cX9_reckon 72 = .ok (.invokestatic 33, 3) := by decide +kernel
theorem dX9_reckon_75 : decode cX9_reckon 75 = .ok (.iastore, 1) := by decide +kernel
theorem dX9_reckon_76 : decode cX9_reckon 76 = .ok (.iinc 5 (-1), 3) := by decide +kernel
theorem dX9_reckon_79 : decode cX9_reckon 79 = .ok (.goto (-36), 3) := by decide +kernel
theorem dX9_reckon_82 : decode cX9_reckon 82 = .ok (.return_, 1) := by decide +kernel
theorem dX9_between_0 : decode cX9_between 0 = .ok (.iload_n 0, 1) := by decide +kernel
theorem dX9_between_1 : decode cX9_between 1 = .ok (.iconst (-1), 1) := by decide +kernel
theorem dX9_between_2 : decode cX9_between 2 = .ok (.if_icmp .ne 14, 3) := by decide +kernel
theorem dX9_between_5 : decode cX9_between 5 = .ok (.iload_n 1, 1) := by decide +kernel
theorem dX9_between_6 : decode cX9_between 6 = .ok (.iconst (-1), 1) := by decide +kernel
theorem dX9_between_7 : decode cX9_between 7 = .ok (.if_icmp .ne 7, 3) := by decide +kernel
theorem dX9_between_10 : decode cX9_between 10 = .ok (.iload_n 2, 1) := by decide +kernel
theorem dX9_between_11 : decode cX9_between 11 = .ok (.goto 4, 3) := by decide +kernel
theorem dX9_between_14 : decode cX9_between 14 = .ok (.iload_n 1, 1) := by decide +kernel
theorem dX9_between_15 : decode cX9_between 15 = .ok (.ireturn, 1) := by decide +kernel
theorem dX9_between_16 : decode cX9_between 16 = .ok (.iload_n 1, 1) := by decide +kernel
theorem dX9_between_17 : decode cX9_between 17 = .ok (.iconst (-1), 1) := by decide +kernel
theorem dX9_between_18 : decode cX9_between 18 = .ok (.if_icmp .ne 7, 3) := by decide +kernel
theorem dX9_between_21 : decode cX9_between 21 = .ok (.iload_n 0, 1) := by decide +kernel
theorem dX9_between_22 : decode cX9_between 22 = .ok (.goto 8, 3) := by decide +kernel
theorem dX9_between_25 : decode cX9_between 25 = .ok (.iload_n 0, 1) := by decide +kernel
theorem dX9_between_26 : decode cX9_between 26 = .ok (.iload_n 1, 1) := by decide +kernel
theorem dX9_between_27 : decode cX9_between 27 = .ok (.iadd, 1) := by decide +kernel
theorem dX9_between_28 : decode cX9_between 28 = .ok (.iconst 2, 1) := by decide +kernel
theorem dX9_between_29 : decode cX9_between 29 = .ok (.idiv, 1) := by decide +kernel
theorem dX9_between_30 : decode cX9_between 30 = .ok (.ireturn, 1) := by decide +kernel
theorem dX10_init_0 : decode cX10_init 0 = .ok (.aload_n 0, 1) := by decide +kernel
theorem dX10_init_1 : decode cX10_init 1 = .ok (.invokespecial 3, 3) := by decide +kernel
theorem dX10_init_4 : decode cX10_init 4 = .ok (.aload_n 0, 1) := by decide +kernel
theorem dX10_init_5 : decode cX10_init 5 = .ok (.bipush 9, 2) := by decide +kernel
theorem dX10_init_7 : decode cX10_init 7 = .ok (.newarray .int, 2) := by decide +kernel
theorem dX10_init_9 : decode cX10_init 9 = .ok (.putfield 9, 3) := by decide +kernel
theorem dX10_init_12 : decode cX10_init 12 = .ok (.aload_n 0, 1) := by decide +kernel
theorem dX10_init_13 : decode cX10_init 13 = .ok (.new 15, 3) := by decide +kernel
theorem dX10_init_16 : decode cX10_init 16 = .ok (.dup, 1) := by decide +kernel
theorem dX10_init_17 : decode cX10_init 17 = .ok (.invokespecial 17, 3) := by decide +kernel
theorem dX10_init_20 : decode cX10_init 20 = .ok (.putfield 18, 3) := by decide +kernel
theorem dX10_init_23 : decode cX10_init 23 = .ok (.aload_n 0, 1) := by decide +kernel
theorem dX10_init_24 : decode cX10_init 24 = .ok (.new 22, 3) := by decide +kernel
theorem dX10_init_27 : decode cX10_init 27 = .ok (.dup, 1) := by decide +kernel
theorem dX10_init_28 : decode cX10_init 28 = .ok (.invokespecial 24, 3) := by decide +kernel
theorem dX10_init_31 : decode cX10_init 31 = .ok (.putfield 25, 3) := by decide +kernel
theorem dX10_init_34 : decode cX10_init 34 = .ok (.aload_n 0, 1) := by decide +kernel
theorem dX10_init_35 : decode cX10_init 35 = .ok (.new 29, 3) := by decide +kernel
theorem dX10_init_38 : decode cX10_init 38 = .ok (.dup, 1) := by decide +kernel
theorem dX10_init_39 : decode cX10_init 39 = .ok (.invokespecial 31, 3) := by decide +kernel
theorem dX10_init_42 : decode cX10_init 42 = .ok (.putfield 32, 3) := by decide +kernel
theorem dX10_init_45 : decode cX10_init 45 = .ok (.aload_n 0, 1) := by decide +kernel
theorem dX10_init_46 : decode cX10_init 46 = .ok (.new 36, 3) := by decide +kernel
theorem dX10_init_49 : decode cX10_init 49 = .ok (.dup, 1) := by decide +kernel
theorem dX10_init_50 : decode cX10_init 50 = .ok (.aload_n 0, 1) := by decide +kernel
theorem dX10_init_51 : decode cX10_init 51 = .ok (.getfield 9, 3) := by decide +kernel
theorem dX10_init_54 : decode cX10_init 54 = .ok (.aload_n 0, 1) := by decide +kernel
theorem dX10_init_55 : decode cX10_init 55 = .ok (.getfield 25, 3) := by decide +kernel
theorem dX10_init_58 : decode cX10_init 58 = .ok (.aload_n 0, 1) := by decide +kernel
theorem dX10_init_59 : decode cX10_init 59 = .ok (.getfield 32, 3) := by decide +kernel
theorem dX10_init_62 : decode cX10_init 62 = .ok (.invokespecial 38, 3) := by decide +kernel
theorem dX10_init_65 : decode cX10_init 65 = .ok (.putfield 41, 3) := by decide +kernel
theorem dX10_init_68 : decode cX10_init 68 = .ok (.aload_n 0, 1) := by decide +kernel
theorem dX10_init_69 : decode cX10_init 69 = .ok (.aload_n 1, 1) := by decide +kernel
theorem dX10_init_70 : decode cX10_init 70 = .ok (.putfield 45, 3) := by decide +kernel
theorem dX10_init_73 : decode cX10_init 73 = .ok (.aload_n 0, 1) := by decide +kernel
theorem dX10_init_74 : decode cX10_init 74 = .ok (.new 49, 3) := by decide +kernel
theorem dX10_init_77 : decode cX10_init 77 = .ok (.dup, 1) := by decide +kernel
theorem dX10_init_78 : decode cX10_init 78 = .ok (.aload_n 2, 1) := by decide +kernel
theorem dX10_init_79 : decode cX10_init 79 = .ok (.invokespecial 51, 3) := by decide +kernel
theorem dX10_init_82 : decode cX10_init 82 = .ok (.putfield 54, 3) := by decide +kernel
theorem dX10_init_85 : decode cX10_init 85 = .ok (.return_, 1) := by decide +kernel
theorem dX10_become_0 : decode cX10_become 0 = .ok (.aload_n 1, 1) := by decide +kernel
theorem dX10_become_1 : decode cX10_become 1 = .ok (.getfield 9, 3) := by decide +kernel
theorem dX10_become_4 : decode cX10_become 4 = .ok (.aload_n 0, 1) := by decide +kernel
theorem dX10_become_5 : decode cX10_become 5 = .ok (.getfield 9, 3) := by decide +kernel
theorem dX10_become_8 : decode cX10_become 8 = .ok (.invokestatic 58, 3) := by decide +kernel
theorem dX10_become_11 : decode cX10_become 11 = .ok (.aload_n 0, 1) := by decide +kernel
theorem dX10_become_12 : decode cX10_become 12 = .ok (.getfield 54, 3) := by decide +kernel
theorem dX10_become_15 : decode cX10_become 15 = .ok (.aload_n 1, 1) := by decide +kernel
theorem dX10_become_16 : decode cX10_become 16 = .ok (.getfield 54, 3) := by decide +kernel
theorem dX10_become_19 : decode cX10_become 19 = .ok (.invokevirtual 62, 3) := by decide +kernel
theorem dX10_become_22 : decode cX10_become 22 = .ok (.aload_n 0, 1) := by decide +kernel
theorem dX10_become_23 : decode cX10_become 23 = .ok (.getfield 18, 3) := by decide +kernel
theorem dX10_become_26 : decode cX10_become 26 = .ok (.aload_n 1, 1) := by decide +kernel
theorem dX10_become_27 : decode cX10_become 27 = .ok (.getfield 18, 3) := by decide +kernel
theorem dX10_become_30 : decode cX10_become 30 = .ok (.invokevirtual 66, 3) := by decide +kernel
theorem dX10_become_33 : decode cX10_become 33 = .ok (.aload_n 0, 1) := by decide +kernel
theorem dX10_become_34 : decode cX10_become 34 = .ok (.getfield 25, 3) := by decide +kernel
theorem dX10_become_37 : decode cX10_become 37 = .ok (.aload_n 1, 1) := by decide +kernel
theorem dX10_become_38 : decode cX10_become 38 = .ok (.getfield 25, 3) := by decide +kernel
theorem dX10_become_41 : decode cX10_become 41 = .ok (.invokevirtual 69, 3) := by decide +kernel
theorem dX10_become_44 : decode cX10_become 44 = .ok (.aload_n 0, 1) := by decide +kernel
theorem dX10_become_45 : decode cX10_become 45 = .ok (.getfield 32, 3) := by decide +kernel
theorem dX10_become_48 : decode cX10_become 48 = .ok (.aload_n 1, 1) := by decide +kernel
theorem dX10_become_49 : decode cX10_become 49 = .ok (.getfield 32, 3) := by decide +kernel
theorem dX10_become_52 : decode cX10_become 52 = .ok (.invokevirtual 72, 3) := by decide +kernel
theorem dX10_become_55 : decode cX10_become 55 = .ok (.aload_n 0, 1) := by decide +kernel
theorem dX10_become_56 : decode cX10_become 56 = .ok (.getfield 41, 3) := by decide +kernel
theorem dX10_become_59 : decode cX10_become 59 = .ok (.aload_n 1, 1) := by decide +kernel
theorem dX10_become_60 : decode cX10_become 60 = .ok (.getfield 41, 3) := by decide +kernel
theorem dX10_become_63 : decode cX10_become 63 = .ok (.invokevirtual 75, 3) := by decide +kernel
theorem dX10_become_66 : decode cX10_become 66 = .ok (.aload_n 0, 1) := by decide +kernel
theorem dX10_become_67 : decode cX10_become 67 = .ok (.aload_n 1, 1) := by decide +kernel
theorem dX10_become_68 : decode cX10_become 68 = .ok (.getfield 78, 3) := by decide +kernel
theorem dX10_become_71 : decode cX10_become 71 = .ok (.putfield 78, 3) := by decide +kernel
theorem dX10_become_74 : decode cX10_become 74 = .ok (.return_, 1) := by decide +kernel
theorem dX10_today_0 : decode cX10_today 0 = .ok (.aload_n 0, 1) := by decide +kernel
theorem dX10_today_1 : decode cX10_today 1 = .ok (.getfield 78, 3) := by decide +kernel
theorem dX10_today_4 : decode cX10_today 4 = .ok (.bipush 24, 2) := by decide +kernel
theorem dX10_today_6 : decode cX10_today 6 = .ok (.idiv, 1) := by decide +kernel
theorem dX10_today_7 : decode cX10_today 7 = .ok (.ireturn, 1) := by decide +kernel
theorem dX10_pulpOfAll_0 : decode cX10_pulpOfAll 0 = .ok (.iconst 0, 1) := by decide +kernel
theorem dX10_pulpOfAll_1 : decode cX10_pulpOfAll 1 = .ok (.istore_n 1, 1) := by decide +kernel
theorem dX10_pulpOfAll_2 : decode cX10_pulpOfAll 2 = .ok (.iconst 0, 1) := by decide +kernel
theorem dX10_pulpOfAll_3 : decode cX10_pulpOfAll 3 = .ok (.istore_n 2, 1) := by decide +kernel
theorem dX10_pulpOfAll_4 : decode cX10_pulpOfAll 4 = .ok (.iload_n 2, 1) := by decide +kernel
theorem dX10_pulpOfAll_5 : decode cX10_pulpOfAll 5 = .ok (.bipush 9, 2) := by decide +kernel
theorem dX10_pulpOfAll_7 : decode cX10_pulpOfAll 7 = .ok (.if_icmp .ge 18, 3) := by decide +kernel
theorem dX10_pulpOfAll_10 : decode cX10_pulpOfAll 10 = .ok (.iload_n 1, 1) := by decide +kernel
theorem dX10_pulpOfAll_11 : decode cX10_pulpOfAll 11 = .ok (.aload_n 0, 1) := by decide +kernel
theorem dX10_pulpOfAll_12 : decode cX10_pulpOfAll 12 = .ok (.getfield 9, 3) := by decide +kernel
theorem dX10_pulpOfAll_15 : decode cX10_pulpOfAll 15 = .ok (.iload_n 2, 1) := by decide +kernel
theorem dX10_pulpOfAll_16 : decode cX10_pulpOfAll 16 = .ok (.iaload, 1) := by decide +kernel
theorem dX10_pulpOfAll_17 : decode cX10_pulpOfAll 17 = .ok (.iadd, 1) := by decide +kernel
theorem dX10_pulpOfAll_18 : decode cX10_pulpOfAll 18 = .ok (.istore_n 1, 1) := by decide +kernel
theorem dX10_pulpOfAll_19 : decode cX10_pulpOfAll 19 = .ok (.iinc 2 1, 3) := by decide +kernel
theorem dX10_pulpOfAll_22 : decode cX10_pulpOfAll 22 = .ok (.goto (-18), 3) := by decide +kernel
theorem dX10_pulpOfAll_25 : decode cX10_pulpOfAll 25 = .ok (.iload_n 1, 1) := by decide +kernel
theorem dX10_pulpOfAll_26 : decode cX10_pulpOfAll 26 = .ok (.ireturn, 1) := by decide +kernel
theorem dX10_pass_0 : decode cX10_pass 0 = .ok (.iconst 0, 1) := by decide +kernel
theorem dX10_pass_1 : decode cX10_pass 1 = .ok (.istore_n 2, 1) := by decide +kernel
theorem dX10_pass_2 : decode cX10_pass 2 = .ok (.iload_n 2, 1) := by decide +kernel
theorem dX10_pass_3 : decode cX10_pass 3 = .ok (.iload_n 1, 1) := by decide +kernel
theorem dX10_pass_4 : decode cX10_pass 4 = .ok (.if_icmp .ge 23, 3) := by decide +kernel
theorem dX10_pass_7 : decode cX10_pass 7 = .ok (.aload_n 0, 1) := by decide +kernel
theorem dX10_pass_8 : decode cX10_pass 8 = .ok (.getfield 78, 3) := by decide +kernel
theorem dX10_pass_11 : decode cX10_pass 11 = .ok (.sipush 2400, 3) := by decide +kernel
theorem dX10_pass_14 : decode cX10_pass 14 = .ok (.if_icmp .ge 13, 3) := by decide +kernel
theorem dX10_pass_17 : decode cX10_pass 17 = .ok (.aload_n 0, 1) := by decide +kernel
theorem dX10_pass_18 : decode cX10_pass 18 = .ok (.invokevirtual 82, 3) := by decide +kernel
theorem dX10_pass_21 : decode cX10_pass 21 = .ok (.iinc 2 1, 3) := by decide +kernel
theorem dX10_pass_24 : decode cX10_pass 24 = .ok (.goto (-22), 3) := by decide +kernel
theorem dX10_pass_27 : decode cX10_pass 27 = .ok (.return_, 1) := by decide +kernel
theorem dX10_passOne_0 : decode cX10_passOne 0 = .ok (.aload_n 0, 1) := by decide +kernel
theorem dX10_passOne_1 : decode cX10_passOne 1 = .ok (.invokevirtual 85, 3) := by decide +kernel
theorem dX10_passOne_4 : decode cX10_passOne 4 = .ok (.istore_n 1, 1) := by decide +kernel
theorem dX10_passOne_5 : decode cX10_passOne 5 = .ok (.aload_n 0, 1) := by decide +kernel
theorem dX10_passOne_6 : decode cX10_passOne 6 = .ok (.getfield 45, 3) := by decide +kernel
theorem dX10_passOne_9 : decode cX10_passOne 9 = .ok (.iload_n 1, 1) := by decide +kernel
theorem dX10_passOne_10 : decode cX10_passOne 10 = .ok (.iconst 2, 1) := by decide +kernel
theorem dX10_passOne_11 : decode cX10_passOne 11 = .ok (.invokevirtual 89, 3) := by decide +kernel
theorem dX10_passOne_14 : decode cX10_passOne 14 = .ok (.iconst 1, 1) := by decide +kernel
theorem dX10_passOne_15 : decode cX10_passOne 15 = .ok (.if_icmp .ne 7, 3) := by decide +kernel
theorem dX10_passOne_18 : decode cX10_passOne 18 = .ok (.iconst 1, 1) := by decide +kernel
theorem dX10_passOne_19 : decode cX10_passOne 19 = .ok (.goto 4, 3) := by decide +kernel
theorem dX10_passOne_22 : decode cX10_passOne 22 = .ok (.iconst 0, 1) := by decide +kernel
theorem dX10_passOne_23 : decode cX10_passOne 23 = .ok (.istore_n 2, 1) := by decide +kernel
theorem dX10_passOne_24 : decode cX10_passOne 24 = .ok (.aload_n 0, 1) := by decide +kernel
theorem dX10_passOne_25 : decode cX10_passOne 25 = .ok (.dup, 1) := by decide +kernel
theorem dX10_passOne_26 : decode cX10_passOne 26 = .ok (.getfield 78, 3) := by decide +kernel
theorem dX10_passOne_29 : decode cX10_passOne 29 = .ok (.iconst 1, 1) := by decide +kernel
theorem dX10_passOne_30 : decode cX10_passOne 30 = .ok (.iadd, 1) := by decide +kernel
theorem dX10_passOne_31 : decode cX10_passOne 31 = .ok (.putfield 78, 3) := by decide +kernel
theorem dX10_passOne_34 : decode cX10_passOne 34 = .ok (.aload_n 0, 1) := by decide +kernel
theorem dX10_passOne_35 : decode cX10_passOne 35 = .ok (.getfield 18, 3) := by decide +kernel
theorem dX10_passOne_38 : decode cX10_passOne 38 = .ok (.iload_n 2, 1) := by decide +kernel
theorem dX10_passOne_39 : decode cX10_passOne 39 = .ok (.ifCond .eq 7, 3) := by decide +kernel
theorem dX10_passOne_42 : decode cX10_passOne 42 = .ok (.iconst 0, 1) := by decide +kernel
theorem dX10_passOne_43 : decode cX10_passOne 43 = .ok (.goto 12, 3) := by decide +kernel
theorem dX10_passOne_46 : decode cX10_passOne 46 = .ok (.aload_n 0, 1) := by decide +kernel
theorem dX10_passOne_47 : decode cX10_passOne 47 = .ok (.getfield 45, 3) := by decide +kernel
theorem dX10_passOne_50 : decode cX10_passOne 50 = .ok (.iload_n 1, 1) := by decide +kernel
theorem dX10_passOne_51 : decode cX10_passOne 51 = .ok (.iconst 0, 1) := by decide +kernel
theorem dX10_passOne_52 : decode cX10_passOne 52 = .ok (.invokevirtual 89, 3) := by decide +kernel
theorem dX10_passOne_55 : decode cX10_passOne 55 = .ok (.aload_n 0, 1) := by decide +kernel
theorem dX10_passOne_56 : decode cX10_passOne 56 = .ok (.getfield 9, 3) := by decide +kernel
theorem dX10_passOne_59 : decode cX10_passOne 59 = .ok (.invokevirtual 95, 3) := by decide +kernel
theorem dX10_passOne_62 : decode cX10_passOne 62 = .ok (.istore_n 3, 1) := by decide +kernel
theorem dX10_passOne_63 : decode cX10_passOne 63 = .ok (.aload_n 0, 1) := by decide +kernel
theorem dX10_passOne_64 : decode cX10_passOne 64 = .ok (.getfield 41, 3) := by decide +kernel
theorem dX10_passOne_67 : decode cX10_passOne 67 = .ok (.iload_n 3, 1) := by decide +kernel
theorem dX10_passOne_68 : decode cX10_passOne 68 = .ok (.aload_n 0, 1) := by decide +kernel
theorem dX10_passOne_69 : decode cX10_passOne 69 = .ok (.getfield 78, 3) := by decide +kernel
theorem dX10_passOne_72 : decode cX10_passOne 72 = .ok (.invokevirtual 99, 3) := by decide +kernel
theorem dX10_passOne_75 : decode cX10_passOne 75 = .ok (.aload_n 0, 1) := by decide +kernel
theorem dX10_passOne_76 : decode cX10_passOne 76 = .ok (.getfield 32, 3) := by decide +kernel
theorem dX10_passOne_79 : decode cX10_passOne 79 = .ok (.aload_n 0, 1) := by decide +kernel
theorem dX10_passOne_80 : decode cX10_passOne 80 = .ok (.getfield 78, 3) := by decide +kernel
theorem dX10_passOne_83 : decode cX10_passOne 83 = .ok (.invokevirtual 102, 3) := by decide +kernel
theorem dX10_passOne_86 : decode cX10_passOne 86 = .ok (.aload_n 0, 1) := by decide +kernel
theorem dX10_passOne_87 : decode cX10_passOne 87 = .ok (.getfield 32, 3) := by decide +kernel
theorem dX10_passOne_90 : decode cX10_passOne 90 = .ok (.iload_n 2, 1) := by decide +kernel
theorem dX10_passOne_91 : decode cX10_passOne 91 = .ok (.ifCond .eq 7, 3) := by decide +kernel
theorem dX10_passOne_94 : decode cX10_passOne 94 = .ok (.iconst 0, 1) := by decide +kernel
theorem dX10_passOne_95 : decode cX10_passOne 95 = .ok (.goto 12, 3) := by decide +kernel
theorem dX10_passOne_98 : decode cX10_passOne 98 = .ok (.aload_n 0, 1) := by decide +kernel
theorem dX10_passOne_99 : decode cX10_passOne 99 = .ok (.getfield 45, 3) := by decide +kernel
theorem dX10_passOne_102 : decode cX10_passOne 102 = .ok (.iload_n 1, 1) := by decide +kernel
theorem dX10_passOne_103 : decode cX10_passOne 103 = .ok (.iconst 1, 1) := by decide +kernel
theorem dX10_passOne_104 : decode cX10_passOne 104 = .ok (.invokevirtual 89, 3) := by decide +kernel
theorem dX10_passOne_107 : decode cX10_passOne 107 = .ok (.aload_n 0, 1) := by decide +kernel
theorem dX10_passOne_108 : decode cX10_passOne 108 = .ok (.getfield 78, 3) := by decide +kernel
theorem dX10_passOne_111 : decode cX10_passOne 111 = .ok (.invokevirtual 106, 3) := by decide +kernel
theorem dX10_passOne_114 : decode cX10_passOne 114 = .ok (.aload_n 0, 1) := by decide +kernel
theorem dX10_passOne_115 : decode cX10_passOne 115 = .ok (.getfield 54, 3) := by decide +kernel
theorem dX10_passOne_118 : decode cX10_passOne 118 = .ok (.aload_n 0, 1) := by decide +kernel
theorem dX10_passOne_119 : decode cX10_passOne 119 = .ok (.getfield 78, 3) := by decide +kernel
theorem dX10_passOne_122 : decode cX10_passOne 122 = .ok (.invokevirtual 109, 3) := by decide +kernel
theorem dX10_passOne_125 : decode cX10_passOne 125 = .ok (.return_, 1) := by decide +kernel
theorem dX11_init_0 : decode cX11_init 0 = .ok (.aload_n 0, 1) := by decide +kernel
theorem dX11_init_1 : decode cX11_init 1 = .ok (.invokespecial 1, 3) := by decide +kernel
theorem dX11_init_4 : decode cX11_init 4 = .ok (.aload_n 0, 1) := by decide +kernel
theorem dX11_init_5 : decode cX11_init 5 = .ok (.new 7, 3) := by decide +kernel
theorem dX11_init_8 : decode cX11_init 8 = .ok (.dup, 1) := by decide +kernel
theorem dX11_init_9 : decode cX11_init 9 = .ok (.invokespecial 9, 3) := by decide +kernel
theorem dX11_init_12 : decode cX11_init 12 = .ok (.putfield 10, 3) := by decide +kernel
theorem dX11_init_15 : decode cX11_init 15 = .ok (.aload_n 0, 1) := by decide +kernel
theorem dX11_init_16 : decode cX11_init 16 = .ok (.new 16, 3) := by decide +kernel
theorem dX11_init_19 : decode cX11_init 19 = .ok (.dup, 1) := by decide +kernel
theorem dX11_init_20 : decode cX11_init 20 = .ok (.invokespecial 18, 3) := by decide +kernel
theorem dX11_init_23 : decode cX11_init 23 = .ok (.putfield 19, 3) := by decide +kernel
theorem dX11_init_26 : decode cX11_init 26 = .ok (.aload_n 0, 1) := by decide +kernel
theorem dX11_init_27 : decode cX11_init 27 = .ok (.new 23, 3) := by decide +kernel
theorem dX11_init_30 : decode cX11_init 30 = .ok (.dup, 1) := by decide +kernel
theorem dX11_init_31 : decode cX11_init 31 = .ok (.aload_n 0, 1) := by decide +kernel
theorem dX11_init_32 : decode cX11_init 32 = .ok (.getfield 10, 3) := by decide +kernel
theorem dX11_init_35 : decode cX11_init 35 = .ok (.aload_n 0, 1) := by decide +kernel
theorem dX11_init_36 : decode cX11_init 36 = .ok (.getfield 19, 3) := by decide +kernel
theorem dX11_init_39 : decode cX11_init 39 = .ok (.invokespecial 25, 3) := by decide +kernel
theorem dX11_init_42 : decode cX11_init 42 = .ok (.putfield 28, 3) := by decide +kernel
theorem dX11_init_45 : decode cX11_init 45 = .ok (.aload_n 0, 1) := by decide +kernel
theorem dX11_init_46 : decode cX11_init 46 = .ok (.new 23, 3) := by decide +kernel
theorem dX11_init_49 : decode cX11_init 49 = .ok (.dup, 1) := by decide +kernel
theorem dX11_init_50 : decode cX11_init 50 = .ok (.aload_n 0, 1) := by decide +kernel
theorem dX11_init_51 : decode cX11_init 51 = .ok (.getfield 10, 3) := by decide +kernel
theorem dX11_init_54 : decode cX11_init 54 = .ok (.aload_n 0, 1) := by decide +kernel
theorem dX11_init_55 : decode cX11_init 55 = .ok (.getfield 19, 3) := by decide +kernel
theorem dX11_init_58 : decode cX11_init 58 = .ok (.invokespecial 25, 3) := by decide +kernel
theorem dX11_init_61 : decode cX11_init 61 = .ok (.putfield 32, 3) := by decide +kernel
theorem dX11_init_64 : decode cX11_init 64 = .ok (.aload_n 0, 1) := by decide +kernel
theorem dX11_init_65 : decode cX11_init 65 = .ok (.new 35, 3) := by decide +kernel
theorem dX11_init_68 : decode cX11_init 68 = .ok (.dup, 1) := by decide +kernel
theorem dX11_init_69 : decode cX11_init 69 = .ok (.invokespecial 37, 3) := by decide +kernel
theorem dX11_init_72 : decode cX11_init 72 = .ok (.putfield 38, 3) := by decide +kernel
theorem dX11_init_75 : decode cX11_init 75 = .ok (.aload_n 0, 1) := by decide +kernel
theorem dX11_init_76 : decode cX11_init 76 = .ok (.new 42, 3) := by decide +kernel
theorem dX11_init_79 : decode cX11_init 79 = .ok (.dup, 1) := by decide +kernel
theorem dX11_init_80 : decode cX11_init 80 = .ok (.aload_n 0, 1) := by decide +kernel
theorem dX11_init_81 : decode cX11_init 81 = .ok (.getfield 28, 3) := by decide +kernel
theorem dX11_init_84 : decode cX11_init 84 = .ok (.getfield 44, 3) := by decide +kernel
theorem dX11_init_87 : decode cX11_init 87 = .ok (.invokespecial 48, 3) := by decide +kernel
theorem dX11_init_90 : decode cX11_init 90 = .ok (.putfield 51, 3) := by decide +kernel
theorem dX11_init_93 : decode cX11_init 93 = .ok (.aload_n 0, 1) := by decide +kernel
theorem dX11_init_94 : decode cX11_init 94 = .ok (.bipush 9, 2) := by decide +kernel
theorem dX11_init_96 : decode cX11_init 96 = .ok (.newarray .int, 2) := by decide +kernel
theorem dX11_init_98 : decode cX11_init 98 = .ok (.putfield 55, 3) := by decide +kernel
theorem dX11_init_101 : decode cX11_init 101 = .ok (.aload_n 0, 1) := by decide +kernel
theorem dX11_init_102 : decode cX11_init 102 = .ok (.bipush 81, 2) := by decide +kernel
theorem dX11_init_104 : decode cX11_init 104 = .ok (.newarray .int, 2) := by decide +kernel
theorem dX11_init_106 : decode cX11_init 106 = .ok (.putfield 59, 3) := by decide +kernel
theorem dX11_init_109 : decode cX11_init 109 = .ok (.aload_n 0, 1) := by decide +kernel
theorem dX11_init_110 : decode cX11_init 110 = .ok (.bipush 7, 2) := by decide +kernel
theorem dX11_init_112 : decode cX11_init 112 = .ok (.newarray .int, 2) := by decide +kernel
theorem dX11_init_114 : decode cX11_init 114 = .ok (.putfield 62, 3) := by decide +kernel
theorem dX11_init_117 : decode cX11_init 117 = .ok (.return_, 1) := by decide +kernel
theorem dX11_day_0 : decode cX11_day 0 = .ok (.iload_n 1, 1) := by decide +kernel
theorem dX11_day_1 : decode cX11_day 1 = .ok (.bipush 101, 2) := by decide +kernel
theorem dX11_day_3 : decode cX11_day 3 = .ok (.invokestatic 65, 3) := by decide +kernel
theorem dX11_day_6 : decode cX11_day 6 = .ok (.ifCond .ne 9, 3) := by decide +kernel
theorem dX11_day_9 : decode cX11_day 9 = .ok (.aload_n 0, 1) := by decide +kernel
theorem dX11_day_10 : decode cX11_day 10 = .ok (.iconst (-1), 1) := by decide +kernel
theorem dX11_day_11 : decode cX11_day 11 = .ok (.invokevirtual 69, 3) := by decide +kernel
theorem dX11_day_14 : decode cX11_day 14 = .ok (.ireturn, 1) := by decide +kernel
theorem dX11_day_15 : decode cX11_day 15 = .ok (.iload_n 2, 1) := by decide +kernel
theorem dX11_day_16 : decode cX11_day 16 = .ok (.iconst 3, 1) := by decide +kernel
theorem dX11_day_17 : decode cX11_day 17 = .ok (.invokestatic 65, 3) := by decide +kernel
theorem dX11_day_20 : decode cX11_day 20 = .ok (.ifCond .ne 10, 3) := by decide +kernel
theorem dX11_day_23 : decode cX11_day 23 = .ok (.aload_n 0, 1) := by decide +kernel
theorem dX11_day_24 : decode cX11_day 24 = .ok (.bipush (-2), 2) := by decide +kernel
theorem dX11_day_26 : decode cX11_day 26 = .ok (.invokevirtual 69, 3) := by decide +kernel
theorem dX11_day_29 : decode cX11_day 29 = .ok (.ireturn, 1) := by decide +kernel
theorem dX11_day_30 : decode cX11_day 30 = .ok (.iload_n 3, 1) := by decide +kernel
theorem dX11_day_31 : decode cX11_day 31 = .ok (.getstatic 73, 3) := by decide +kernel
theorem dX11_day_34 : decode cX11_day 34 = .ok (.iload_n 2, 1) := by decide +kernel
theorem dX11_day_35 : decode cX11_day 35 = .ok (.iaload, 1) := by decide +kernel
theorem dX11_day_36 : decode cX11_day 36 = .ok (.if_icmp .ge 10, 3) := by decide +kernel
theorem dX11_day_39 : decode cX11_day 39 = .ok (.aload_n 0, 1) := by decide +kernel
theorem dX11_day_40 : decode cX11_day 40 = .ok (.bipush (-4), 2) := by decide +kernel
theorem dX11_day_42 : decode cX11_day 42 = .ok (.invokevirtual 69, 3) := by decide +kernel
theorem dX11_day_45 : decode cX11_day 45 = .ok (.ireturn, 1) := by decide +kernel
theorem dX11_day_46 : decode cX11_day 46 = .ok (.iload_n 3, 1) := by decide +kernel
theorem dX11_day_47 : decode cX11_day 47 = .ok (.getstatic 76, 3) := by decide +kernel
theorem dX11_day_50 : decode cX11_day 50 = .ok (.iload_n 2, 1) := by decide +kernel
theorem dX11_day_51 : decode cX11_day 51 = .ok (.iaload, 1) := by decide +kernel
theorem dX11_day_52 : decode cX11_day 52 = .ok (.if_icmp .le 10, 3) := by decide +kernel
theorem dX11_day_55 : decode cX11_day 55 = .ok (.aload_n 0, 1) := by decide +kernel
theorem dX11_day_56 : decode cX11_day 56 = .ok (.bipush (-6), 2) := by decide +kernel
theorem dX11_day_58 : decode cX11_day 58 = .ok (.invokevirtual 69, 3) := by decide +kernel
theorem dX11_day_61 : decode cX11_day 61 = .ok (.ireturn, 1) := by decide +kernel
theorem dX11_day_62 : decode cX11_day 62 = .ok (.aload_n 0, 1) := by decide +kernel
theorem dX11_day_63 : decode cX11_day 63 = .ok (.getfield 10, 3) := by decide +kernel
theorem dX11_day_66 : decode cX11_day 66 = .ok (.iload_n 1, 1) := by decide +kernel
theorem dX11_day_67 : decode cX11_day 67 = .ok (.iload_n 2, 1) := by decide +kernel
theorem dX11_day_68 : decode cX11_day 68 = .ok (.invokevirtual 79, 3) := by decide +kernel
theorem dX11_day_71 : decode cX11_day 71 = .ok (.istore 4, 2) := by decide +kernel
theorem dX11_day_73 : decode cX11_day 73 = .ok (.aload_n 0, 1) := by decide +kernel
theorem dX11_day_74 : decode cX11_day 74 = .ok (.getfield 10, 3) := by decide +kernel
theorem dX11_day_77 : decode cX11_day 77 = .ok (.iload_n 1, 1) := by decide +kernel
theorem dX11_day_78 : decode cX11_day 78 = .ok (.iload_n 2, 1) := by decide +kernel
theorem dX11_day_79 : decode cX11_day 79 = .ok (.iload_n 3, 1) := by decide +kernel
theorem dX11_day_80 : decode cX11_day 80 = .ok (.invokevirtual 83, 3) := by decide +kernel
theorem dX11_day_83 : decode cX11_day 83 = .ok (.iload 4, 2) := by decide +kernel
theorem dX11_day_85 : decode cX11_day 85 = .ok (.ireturn, 1) := by decide +kernel
theorem dX11_dayOf_0 : decode cX11_dayOf 0 = .ok (.iload_n 1, 1) := by decide +kernel
theorem dX11_dayOf_1 : decode cX11_dayOf 1 = .ok (.bipush 101, 2) := by decide +kernel
theorem dX11_dayOf_3 : decode cX11_dayOf 3 = .ok (.invokestatic 65, 3) := by decide +kernel
theorem dX11_dayOf_6 : decode cX11_dayOf 6 = .ok (.ifCond .ne 9, 3) := by decide +kernel
theorem dX11_dayOf_9 : decode cX11_dayOf 9 = .ok (.aload_n 0, 1) := by decide +kernel
theorem dX11_dayOf_10 : decode cX11_dayOf 10 = .ok (.iconst (-1), 1) := by decide +kernel
theorem dX11_dayOf_11 : decode cX11_dayOf 11 = .ok (.invokevirtual 69, 3) := by decide +kernel
theorem dX11_dayOf_14 : decode cX11_dayOf 14 = .ok (.ireturn, 1) := by decide +kernel
theorem dX11_dayOf_15 : decode cX11_dayOf 15 = .ok (.iload_n 2, 1) := by decide +kernel
theorem dX11_dayOf_16 : decode cX11_dayOf 16 = .ok (.iconst 3, 1) := by decide +kernel
theorem dX11_dayOf_17 : decode cX11_dayOf 17 = .ok (.invokestatic 65, 3) := by decide +kernel
theorem dX11_dayOf_20 : decode cX11_dayOf 20 = .ok (.ifCond .ne 10, 3) := by decide +kernel
theorem dX11_dayOf_23 : decode cX11_dayOf 23 = .ok (.aload_n 0, 1) := by decide +kernel
theorem dX11_dayOf_24 : decode cX11_dayOf 24 = .ok (.bipush (-2), 2) := by decide +kernel
theorem dX11_dayOf_26 : decode cX11_dayOf 26 = .ok (.invokevirtual 69, 3) := by decide +kernel
theorem dX11_dayOf_29 : decode cX11_dayOf 29 = .ok (.ireturn, 1) := by decide +kernel
theorem dX11_dayOf_30 : decode cX11_dayOf 30 = .ok (.aload_n 0, 1) := by decide +kernel
theorem dX11_dayOf_31 : decode cX11_dayOf 31 = .ok (.getfield 10, 3) := by decide +kernel
theorem dX11_dayOf_34 : decode cX11_dayOf 34 = .ok (.iload_n 1, 1) := by decide +kernel
theorem dX11_dayOf_35 : decode cX11_dayOf 35 = .ok (.iload_n 2, 1) := by decide +kernel
theorem dX11_dayOf_36 : decode cX11_dayOf 36 = .ok (.invokevirtual 79, 3) := by decide +kernel
theorem dX11_dayOf_39 : decode cX11_dayOf 39 = .ok (.ireturn, 1) := by decide +kernel
theorem dX11_kind_0 : decode cX11_kind 0 = .ok (.iload_n 1, 1) := by decide +kernel
theorem dX11_kind_1 : decode cX11_kind 1 = .ok (.bipush 9, 2) := by decide +kernel
theorem dX11_kind_3 : decode cX11_kind 3 = .ok (.invokestatic 65, 3) := by decide +kernel
theorem dX11_kind_6 : decode cX11_kind 6 = .ok (.ifCond .ne 9, 3) := by decide +kernel
theorem dX11_kind_9 : decode cX11_kind 9 = .ok (.aload_n 0, 1) := by decide +kernel
theorem dX11_kind_10 : decode cX11_kind 10 = .ok (.iconst (-1), 1) := by decide +kernel
theorem dX11_kind_11 : decode cX11_kind 11 = .ok (.invokevirtual 69, 3) := by decide +kernel
theorem dX11_kind_14 : decode cX11_kind 14 = .ok (.ireturn, 1) := by decide +kernel
theorem dX11_kind_15 : decode cX11_kind 15 = .ok (.iload_n 2, 1) := by decide +kernel
theorem dX11_kind_16 : decode cX11_kind 16 = .ok (.ifCond .lt 14, 3) := by decide +kernel
theorem dX11_kind_19 : decode cX11_kind 19 = .ok (.iload_n 3, 1) := by decide +kernel
theorem dX11_kind_20 : decode cX11_kind 20 = .ok (.iconst 1, 1) := by decide +kernel
theorem dX11_kind_21 : decode cX11_kind 21 = .ok (.if_icmp .lt 9, 3) := by decide +kernel
theorem dX11_kind_24 : decode cX11_kind 24 = .ok (.iload 4, 2) := by decide +kernel
theorem dX11_kind_26 : decode cX11_kind 26 = .ok (.iconst 1, 1) := by decide +kernel
theorem dX11_kind_27 : decode cX11_kind 27 = .ok (.if_icmp .ge 10, 3) := by decide +kernel
theorem dX11_kind_30 : decode cX11_kind 30 = .ok (.aload_n 0, 1) := by decide +kernel
theorem dX11_kind_31 : decode cX11_kind 31 = .ok (.bipush (-4), 2) := by decide +kernel
theorem dX11_kind_33 : decode cX11_kind 33 = .ok (.invokevirtual 69, 3) := by decide +kernel
theorem dX11_kind_36 : decode cX11_kind 36 = .ok (.ireturn, 1) := by decide +kernel
theorem dX11_kind_37 : decode cX11_kind 37 = .ok (.iload_n 2, 1) := by decide +kernel
theorem dX11_kind_38 : decode cX11_kind 38 = .ok (.bipush 20, 2) := by decide +kernel
theorem dX11_kind_40 : decode cX11_kind 40 = .ok (.if_icmp .gt 16, 3) := by decide +kernel
theorem dX11_kind_43 : decode cX11_kind 43 = .ok (.iload_n 3, 1) := by decide +kernel
theorem dX11_kind_44 : decode cX11_kind 44 = .ok (.bipush 40, 2) := by decide +kernel
theorem dX11_kind_46 : decode cX11_kind 46 = .ok (.if_icmp .gt 10, 3) := by decide +kernel
theorem dX11_kind_49 : decode cX11_kind 49 = .ok (.iload 4, 2) := by decide +kernel
theorem dX11_kind_51 : decode cX11_kind 51 = .ok (.bipush 30, 2) := by decide +kernel
theorem dX11_kind_53 : decode cX11_kind 53 = .ok (.if_icmp .le 10, 3) := by decide +kernel
theorem dX11_kind_56 : decode cX11_kind 56 = .ok (.aload_n 0, 1) := by decide +kernel
theorem dX11_kind_57 : decode cX11_kind 57 = .ok (.bipush (-6), 2) := by decide +kernel
theorem dX11_kind_59 : decode cX11_kind 59 = .ok (.invokevirtual 69, 3) := by decide +kernel
theorem dX11_kind_62 : decode cX11_kind 62 = .ok (.ireturn, 1) := by decide +kernel
theorem dX11_kind_63 : decode cX11_kind 63 = .ok (.aload_n 0, 1) := by decide +kernel
theorem dX11_kind_64 : decode cX11_kind 64 = .ok (.getfield 19, 3) := by decide +kernel
theorem dX11_kind_67 : decode cX11_kind 67 = .ok (.getfield 87, 3) := by decide +kernel
theorem dX11_kind_70 : decode cX11_kind 70 = .ok (.iload_n 1, 1) := by decide +kernel
theorem dX11_kind_71 : decode cX11_kind 71 = .ok (.iload_n 2, 1) := by decide +kernel
theorem dX11_kind_72 : decode cX11_kind 72 = .ok (.iastore, 1) := by decide +kernel
theorem dX11_kind_73 : decode cX11_kind 73 = .ok (.aload_n 0, 1) := by decide +kernel
theorem dX11_kind_74 : decode cX11_kind 74 = .ok (.getfield 19, 3) := by decide +kernel
theorem dX11_kind_77 : decode cX11_kind 77 = .ok (.getfield 90, 3) := by decide +kernel
theorem dX11_kind_80 : decode cX11_kind 80 = .ok (.iload_n 1, 1) := by decide +kernel
theorem dX11_kind_81 : decode cX11_kind 81 = .ok (.iload_n 3, 1) := by decide +kernel
theorem dX11_kind_82 : decode cX11_kind 82 = .ok (.iastore, 1) := by decide +kernel
theorem dX11_kind_83 : decode cX11_kind 83 = .ok (.aload_n 0, 1) := by decide +kernel
theorem dX11_kind_84 : decode cX11_kind 84 = .ok (.getfield 19, 3) := by decide +kernel
theorem dX11_kind_87 : decode cX11_kind 87 = .ok (.getfield 93, 3) := by decide +kernel
theorem dX11_kind_90 : decode cX11_kind 90 = .ok (.iload_n 1, 1) := by decide +kernel
theorem dX11_kind_91 : decode cX11_kind 91 = .ok (.iload 4, 2) := by decide +kernel
theorem dX11_kind_93 : decode cX11_kind 93 = .ok (.iastore, 1) := by decide +kernel
theorem dX11_kind_94 : decode cX11_kind 94 = .ok (.iconst 1, 1) := by decide +kernel
theorem dX11_kind_95 : decode cX11_kind 95 = .ok (.ireturn, 1) := by decide +kernel
theorem dX11_rags_0 : decode cX11_rags 0 = .ok (.iload_n 1, 1) := by decide +kernel
theorem dX11_rags_1 : decode cX11_rags 1 = .ok (.bipush 9, 2) := by decide +kernel
theorem dX11_rags_3 : decode cX11_rags 3 = .ok (.invokestatic 65, 3) := by decide +kernel
theorem dX11_rags_6 : decode cX11_rags 6 = .ok (.ifCond .ne 9, 3) := by decide +kernel
theorem dX11_rags_9 : decode cX11_rags 9 = .ok (.aload_n 0, 1) := by decide +kernel
theorem dX11_rags_10 : decode cX11_rags 10 = .ok (.iconst (-1), 1) := by decide +kernel
theorem dX11_rags_11 : decode cX11_rags 11 = .ok (.invokevirtual 69, 3) := by decide +kernel
theorem dX11_rags_14 : decode cX11_rags 14 = .ok (.ireturn, 1) := by decide +kernel
theorem dX11_rags_15 : decode cX11_rags 15 = .ok (.iload_n 2, 1) := by decide +kernel
theorem dX11_rags_16 : decode cX11_rags 16 = .ok (.iconst 1, 1) := by decide +kernel
theorem dX11_rags_17 : decode cX11_rags 17 = .ok (.if_icmp .ge 10, 3) := by decide +kernel
theorem dX11_rags_20 : decode cX11_rags 20 = .ok (.aload_n 0, 1) := by decide +kernel
theorem dX11_rags_21 : decode cX11_rags 21 = .ok (.bipush (-4), 2) := by decide +kernel
theorem dX11_rags_23 : decode cX11_rags 23 = .ok (.invokevirtual 69, 3) := by decide +kernel
theorem dX11_rags_26 : decode cX11_rags 26 = .ok (.ireturn, 1) := by decide +kernel
theorem dX11_rags_27 : decode cX11_rags 27 = .ok (.iload_n 2, 1) := by decide +kernel
theorem dX11_rags_28 : decode cX11_rags 28 = .ok (.sipush 20000, 3) := by decide +kernel
theorem dX11_rags_31 : decode cX11_rags 31 = .ok (.aload_n 0, 1) := by decide +kernel
theorem dX11_rags_32 : decode cX11_rags 32 = .ok (.getfield 19, 3) := by decide +kernel
theorem dX11_rags_35 : decode cX11_rags 35 = .ok (.getfield 96, 3) := by decide +kernel
theorem dX11_rags_38 : decode cX11_rags 38 = .ok (.iload_n 1, 1) := by decide +kernel
theorem dX11_rags_39 : decode cX11_rags 39 = .ok (.iaload, 1) := by decide +kernel
theorem dX11_rags_40 : decode cX11_rags 40 = .ok (.isub, 1) := by decide +kernel
theorem dX11_rags_41 : decode cX11_rags 41 = .ok (.if_icmp .le 10, 3) := by decide +kernel
theorem dX11_rags_44 : decode cX11_rags 44 = .ok (.aload_n 0, 1) := by decide +kernel
theorem dX11_rags_45 : decode cX11_rags 45 = .ok (.bipush (-6), 2) := by decide +kernel
theorem dX11_rags_47 : decode cX11_rags 47 = .ok (.invokevirtual 69, 3) := by decide +kernel
theorem dX11_rags_50 : decode cX11_rags 50 = .ok (.ireturn, 1) := by decide +kernel
theorem dX11_rags_51 : decode cX11_rags 51 = .ok (.aload_n 0, 1) := by decide +kernel
theorem dX11_rags_52 : decode cX11_rags 52 = .ok (.getfield 19, 3) := by decide +kernel
theorem dX11_rags_55 : decode cX11_rags 55 = .ok (.getfield 96, 3) := by decide +kernel
theorem dX11_rags_58 : decode cX11_rags 58 = .ok (.iload_n 1, 1) := by decide +kernel
theorem dX11_rags_59 : decode cX11_rags 59 = .ok (.dup2, 1) := by decide +kernel
theorem dX11_rags_60 : decode cX11_rags 60 = .ok (.iaload, 1) := by decide +kernel
theorem dX11_rags_61 : decode cX11_rags 61 = .ok (.iload_n 2, 1) := by decide +kernel
theorem dX11_rags_62 : decode cX11_rags 62 = .ok (.iadd, 1) := by decide +kernel
theorem dX11_rags_63 : decode cX11_rags 63 = .ok (.iastore, 1) := by decide +kernel
theorem dX11_rags_64 : decode cX11_rags 64 = .ok (.aload_n 0, 1) := by decide +kernel
theorem dX11_rags_65 : decode cX11_rags 65 = .ok (.getfield 19, 3) := by decide +kernel
theorem dX11_rags_68 : decode cX11_rags 68 = .ok (.getfield 96, 3) := by decide +kernel
theorem dX11_rags_71 : decode cX11_rags 71 = .ok (.iload_n 1, 1) := by decide +kernel
theorem dX11_rags_72 : decode cX11_rags 72 = .ok (.iaload, 1) := by decide +kernel
theorem dX11_rags_73 : decode cX11_rags 73 = .ok (.ireturn, 1) := by decide +kernel
theorem dX11_heap_0 : decode cX11_heap 0 = .ok (.iload_n 1, 1) := by decide +kernel
theorem dX11_heap_1 : decode cX11_heap 1 = .ok (.bipush 9, 2) := by decide +kernel
theorem dX11_heap_3 : decode cX11_heap 3 = .ok (.invokestatic 65, 3) := by decide +kernel
theorem dX11_heap_6 : decode cX11_heap 6 = .ok (.ifCond .ne 9, 3) := by decide +kernel
theorem dX11_heap_9 : decode cX11_heap 9 = .ok (.aload_n 0, 1) := by decide +kernel
theorem dX11_heap_10 : decode cX11_heap 10 = .ok (.iconst (-1), 1) := by decide +kernel
theorem dX11_heap_11 : decode cX11_heap 11 = .ok (.invokevirtual 69, 3) := by decide +kernel
theorem dX11_heap_14 : decode cX11_heap 14 = .ok (.ireturn, 1) := by decide +kernel
theorem dX11_heap_15 : decode cX11_heap 15 = .ok (.iload_n 2, 1) := by decide +kernel
theorem dX11_heap_16 : decode cX11_heap 16 = .ok (.iconst 1, 1) := by decide +kernel
theorem dX11_heap_17 : decode cX11_heap 17 = .ok (.if_icmp .ge 10, 3) := by decide +kernel
theorem dX11_heap_20 : decode cX11_heap 20 = .ok (.aload_n 0, 1) := by decide +kernel
theorem dX11_heap_21 : decode cX11_heap 21 = .ok (.bipush (-4), 2) := by decide +kernel
theorem dX11_heap_23 : decode cX11_heap 23 = .ok (.invokevirtual 69, 3) := by decide +kernel
theorem dX11_heap_26 : decode cX11_heap 26 = .ok (.ireturn, 1) := by decide +kernel
theorem dX11_heap_27 : decode cX11_heap 27 = .ok (.iload_n 2, 1) := by decide +kernel
theorem dX11_heap_28 : decode cX11_heap 28 = .ok (.sipush 400, 3) := by decide +kernel
theorem dX11_heap_31 : decode cX11_heap 31 = .ok (.if_icmp .gt 31, 3) := by decide +kernel
theorem dX11_heap_34 : decode cX11_heap 34 = .ok (.iload_n 2, 1) := by decide +kernel
theorem dX11_heap_35 : decode cX11_heap 35 = .ok (.aload_n 0, 1) := by decide +kernel
theorem dX11_heap_36 : decode cX11_heap 36 = .ok (.getfield 19, 3) := by decide +kernel
theorem dX11_heap_39 : decode cX11_heap 39 = .ok (.getfield 96, 3) := by decide +kernel
theorem dX11_heap_42 : decode cX11_heap 42 = .ok (.iload_n 1, 1) := by decide +kernel
theorem dX11_heap_43 : decode cX11_heap 43 = .ok (.iaload, 1) := by decide +kernel
theorem dX11_heap_44 : decode cX11_heap 44 = .ok (.if_icmp .gt 18, 3) := by decide +kernel
theorem dX11_heap_47 : decode cX11_heap 47 = .ok (.aload_n 0, 1) := by decide +kernel
theorem dX11_heap_48 : decode cX11_heap 48 = .ok (.getfield 28, 3) := by decide +kernel
theorem dX11_heap_51 : decode cX11_heap 51 = .ok (.getfield 99, 3) := by decide +kernel
theorem dX11_heap_54 : decode cX11_heap 54 = .ok (.getfield 103, 3) := by decide +kernel
theorem dX11_heap_57 : decode cX11_heap 57 = .ok (.bipush 40, 2) := by decide +kernel
theorem dX11_heap_59 : decode cX11_heap 59 = .ok (.if_icmp .ne 10, 3) := by decide +kernel
theorem dX11_heap_62 : decode cX11_heap 62 = .ok (.aload_n 0, 1) := by decide +kernel
theorem dX11_heap_63 : decode cX11_heap 63 = .ok (.bipush (-6), 2) := by decide +kernel
theorem dX11_heap_65 : decode cX11_heap 65 = .ok (.invokevirtual 69, 3) := by decide +kernel
theorem dX11_heap_68 : decode cX11_heap 68 = .ok (.ireturn, 1) := by decide +kernel
theorem dX11_heap_69 : decode cX11_heap 69 = .ok (.aload_n 0, 1) := by decide +kernel
theorem dX11_heap_70 : decode cX11_heap 70 = .ok (.getfield 19, 3) := by decide +kernel
theorem dX11_heap_73 : decode cX11_heap 73 = .ok (.getfield 96, 3) := by decide +kernel
theorem dX11_heap_76 : decode cX11_heap 76 = .ok (.iload_n 1, 1) := by decide +kernel
theorem dX11_heap_77 : decode cX11_heap 77 = .ok (.dup2, 1) := by decide +kernel
theorem dX11_heap_78 : decode cX11_heap 78 = .ok (.iaload, 1) := by decide +kernel
theorem dX11_heap_79 : decode cX11_heap 79 = .ok (.iload_n 2, 1) := by decide +kernel
theorem dX11_heap_80 : decode cX11_heap 80 = .ok (.isub, 1) := by decide +kernel
theorem dX11_heap_81 : decode cX11_heap 81 = .ok (.iastore, 1) := by decide +kernel
theorem dX11_heap_82 : decode cX11_heap 82 = .ok (.aload_n 0, 1) := by decide +kernel
theorem dX11_heap_83 : decode cX11_heap 83 = .ok (.getfield 28, 3) := by decide +kernel
theorem dX11_heap_86 : decode cX11_heap 86 = .ok (.getfield 99, 3) := by decide +kernel
theorem dX11_heap_89 : decode cX11_heap 89 = .ok (.iload_n 1, 1) := by decide +kernel
theorem dX11_heap_90 : decode cX11_heap 90 = .ok (.iload_n 2, 1) := by decide +kernel
theorem dX11_heap_91 : decode cX11_heap 91 = .ok (.aload_n 0, 1) := by decide +kernel
theorem dX11_heap_92 : decode cX11_heap 92 = .ok (.getfield 28, 3) := by decide +kernel
theorem dX11_heap_95 : decode cX11_heap 95 = .ok (.getfield 109, 3) := by decide +kernel
theorem dX11_heap_98 : decode cX11_heap 98 = .ok (.invokevirtual 112, 3) := by decide +kernel
theorem dX11_heap_101 : decode cX11_heap 101 = .ok (.ireturn, 1) := by decide +kernel
theorem dX11_load_0 : decode cX11_load 0 = .ok (.iload_n 1, 1) := by decide +kernel
theorem dX11_load_1 : decode cX11_load 1 = .ok (.iconst 4, 1) := by decide +kernel
theorem dX11_load_2 : decode cX11_load 2 = .ok (.invokestatic 65, 3) := by decide +kernel
theorem dX11_load_5 : decode cX11_load 5 = .ok (.ifCond .eq 20, 3) := by decide +kernel
theorem dX11_load_8 : decode cX11_load 8 = .ok (.iload_n 2, 1) := by decide +kernel
theorem dX11_load_9 : decode cX11_load 9 = .ok (.aload_n 0, 1) := by decide +kernel
theorem dX11_load_10 : decode cX11_load 10 = .ok (.getfield 28, 3) := by decide +kernel
theorem dX11_load_13 : decode cX11_load 13 = .ok (.getfield 99, 3) := by decide +kernel
theorem dX11_load_16 : decode cX11_load 16 = .ok (.getfield 103, 3) := by decide +kernel
theorem dX11_load_19 : decode cX11_load 19 = .ok (.invokestatic 65, 3) := by decide +kernel
theorem dX11_load_22 : decode cX11_load 22 = .ok (.ifCond .ne 9, 3) := by decide +kernel
theorem dX11_load_25 : decode cX11_load 25 = .ok (.aload_n 0, 1) := by decide +kernel
theorem dX11_load_26 : decode cX11_load 26 = .ok (.iconst (-1), 1) := by decide +kernel
theorem dX11_load_27 : decode cX11_load 27 = .ok (.invokevirtual 69, 3) := by decide +kernel
theorem dX11_load_30 : decode cX11_load 30 = .ok (.ireturn, 1) := by decide +kernel
theorem dX11_load_31 : decode cX11_load 31 = .ok (.aload_n 0, 1) := by decide +kernel
theorem dX11_load_32 : decode cX11_load 32 = .ok (.getfield 28, 3) := by decide +kernel
theorem dX11_load_35 : decode cX11_load 35 = .ok (.getfield 116, 3) := by decide +kernel
theorem dX11_load_38 : decode cX11_load 38 = .ok (.iload_n 1, 1) := by decide +kernel
theorem dX11_load_39 : decode cX11_load 39 = .ok (.invokevirtual 120, 3) := by decide +kernel
theorem dX11_load_42 : decode cX11_load 42 = .ok (.ifCond .eq 24, 3) := by decide +kernel
theorem dX11_load_45 : decode cX11_load 45 = .ok (.aload_n 0, 1) := by decide +kernel
theorem dX11_load_46 : decode cX11_load 46 = .ok (.getfield 28, 3) := by decide +kernel
theorem dX11_load_49 : decode cX11_load 49 = .ok (.getfield 99, 3) := by decide +kernel
theorem dX11_load_52 : decode cX11_load 52 = .ok (.iload_n 2, 1) := by decide +kernel
theorem dX11_load_53 : decode cX11_load 53 = .ok (.aload_n 0, 1) := by decide +kernel
theorem dX11_load_54 : decode cX11_load 54 = .ok (.getfield 28, 3) := by decide +kernel
theorem dX11_load_57 : decode cX11_load 57 = .ok (.getfield 109, 3) := by decide +kernel
theorem dX11_load_60 : decode cX11_load 60 = .ok (.invokevirtual 126, 3) := by decide +kernel
theorem dX11_load_63 : decode cX11_load 63 = .ok (.ifCond .ne 10, 3) := by decide +kernel
theorem dX11_load_66 : decode cX11_load 66 = .ok (.aload_n 0, 1) := by decide +kernel
theorem dX11_load_67 : decode cX11_load 67 = .ok (.bipush (-3), 2) := by decide +kernel
theorem dX11_load_69 : decode cX11_load 69 = .ok (.invokevirtual 69, 3) := by decide +kernel
theorem dX11_load_72 : decode cX11_load 72 = .ok (.ireturn, 1) := by decide +kernel
theorem dX11_load_73 : decode cX11_load 73 = .ok (.iload_n 3, 1) := by decide +kernel
theorem dX11_load_74 : decode cX11_load 74 = .ok (.iconst 1, 1) := by decide +kernel
theorem dX11_load_75 : decode cX11_load 75 = .ok (.if_icmp .ge 10, 3) := by decide +kernel
theorem dX11_load_78 : decode cX11_load 78 = .ok (.aload_n 0, 1) := by decide +kernel
theorem dX11_load_79 : decode cX11_load 79 = .ok (.bipush (-4), 2) := by decide +kernel
theorem dX11_load_81 : decode cX11_load 81 = .ok (.invokevirtual 69, 3) := by decide +kernel
theorem dX11_load_84 : decode cX11_load 84 = .ok (.ireturn, 1) := by decide +kernel
theorem dX11_load_85 : decode cX11_load 85 = .ok (.iload_n 3, 1) := by decide +kernel
theorem dX11_load_86 : decode cX11_load 86 = .ok (.bipush 100, 2) := by decide +kernel
theorem dX11_load_88 : decode cX11_load 88 = .ok (.if_icmp .gt 19, 3) := by decide +kernel
theorem dX11_load_91 : decode cX11_load 91 = .ok (.iload_n 3, 1) := by decide +kernel
theorem dX11_load_92 : decode cX11_load 92 = .ok (.aload_n 0, 1) := by decide +kernel
theorem dX11_load_93 : decode cX11_load 93 = .ok (.getfield 28, 3) := by decide +kernel
theorem dX11_load_96 : decode cX11_load 96 = .ok (.getfield 99, 3) := by decide +kernel
theorem dX11_load_99 : decode cX11_load 99 = .ok (.getfield 129, 3) := by decide +kernel
theorem dX11_load_102 : decode cX11_load 102 = .ok (.iload_n 2, 1) := by decide +kernel
theorem dX11_load_103 : decode cX11_load 103 = .ok (.iaload, 1) := by decide +kernel
theorem dX11_load_104 : decode cX11_load 104 = .ok (.if_icmp .le 10, 3) := by decide +kernel
theorem dX11_load_107 : decode cX11_load 107 = .ok (.aload_n 0, 1) := by decide +kernel
theorem dX11_load_108 : decode cX11_load 108 = .ok (.bipush (-6), 2) := by decide +kernel
theorem dX11_load_110 : decode cX11_load 110 = .ok (.invokevirtual 69, 3) := by decide +kernel
theorem dX11_load_113 : decode cX11_load 113 = .ok (.ireturn, 1) := by decide +kernel
theorem dX11_load_114 : decode cX11_load 114 = .ok (.aload_n 0, 1) := by decide +kernel
theorem dX11_load_115 : decode cX11_load 115 = .ok (.getfield 28, 3) := by decide +kernel
theorem dX11_load_118 : decode cX11_load 118 = .ok (.getfield 99, 3) := by decide +kernel
theorem dX11_load_121 : decode cX11_load 121 = .ok (.getfield 132, 3) := by decide +kernel
theorem dX11_load_124 : decode cX11_load 124 = .ok (.iload_n 2, 1) := by decide +kernel
theorem dX11_load_125 : decode cX11_load 125 = .ok (.iaload, 1) := by decide +kernel
theorem dX11_load_126 : decode cX11_load 126 = .ok (.istore 4, 2) := by decide +kernel
theorem dX11_load_128 : decode cX11_load 128 = .ok (.aload_n 0, 1) := by decide +kernel
theorem dX11_load_129 : decode cX11_load 129 = .ok (.getfield 28, 3) := by decide +kernel
theorem dX11_load_132 : decode cX11_load 132 = .ok (.getfield 99, 3) := by decide +kernel
theorem dX11_load_135 : decode cX11_load 135 = .ok (.getfield 129, 3) := by decide +kernel
theorem dX11_load_138 : decode cX11_load 138 = .ok (.iload_n 2, 1) := by decide +kernel
theorem dX11_load_139 : decode cX11_load 139 = .ok (.dup2, 1) := by decide +kernel
theorem dX11_load_140 : decode cX11_load 140 = .ok (.iaload, 1) := by decide +kernel
theorem dX11_load_141 : decode cX11_load 141 = .ok (.iload_n 3, 1) := by decide +kernel
theorem dX11_load_142 : decode cX11_load 142 = .ok (.isub, 1) := by decide +kernel
theorem dX11_load_143 : decode cX11_load 143 = .ok (.iastore, 1) := by decide +kernel
theorem dX11_load_144 : decode cX11_load 144 = .ok (.aload_n 0, 1) := by decide +kernel
theorem dX11_load_145 : decode cX11_load 145 = .ok (.getfield 28, 3) := by decide +kernel
theorem dX11_load_148 : decode cX11_load 148 = .ok (.getfield 116, 3) := by decide +kernel
theorem dX11_load_151 : decode cX11_load 151 = .ok (.iload_n 1, 1) := by decide +kernel
theorem dX11_load_152 : decode cX11_load 152 = .ok (.iload 4, 2) := by decide +kernel
theorem dX11_load_154 : decode cX11_load 154 = .ok (.iload_n 3, 1) := by decide +kernel
theorem dX11_load_155 : decode cX11_load 155 = .ok (.aload_n 0, 1) := by decide +kernel
theorem dX11_load_156 : decode cX11_load 156 = .ok (.getfield 19, 3) := by decide +kernel
theorem dX11_load_159 : decode cX11_load 159 = .ok (.getfield 93, 3) := by decide +kernel
theorem dX11_load_162 : decode cX11_load 162 = .ok (.iload 4, 2) := by decide +kernel
theorem dX11_load_164 : decode cX11_load 164 = .ok (.iaload, 1) := by decide +kernel
theorem dX11_load_165 : decode cX11_load 165 = .ok (.invokevirtual 135, 3) := by decide +kernel
theorem dX11_load_168 : decode cX11_load 168 = .ok (.aload_n 0, 1) := by decide +kernel
theorem dX11_load_169 : decode cX11_load 169 = .ok (.getfield 19, 3) := by decide +kernel
theorem dX11_load_172 : decode cX11_load 172 = .ok (.getfield 93, 3) := by decide +kernel
theorem dX11_load_175 : decode cX11_load 175 = .ok (.iload 4, 2) := by decide +kernel
theorem dX11_load_177 : decode cX11_load 177 = .ok (.iaload, 1) := by decide +kernel
theorem dX11_load_178 : decode cX11_load 178 = .ok (.ireturn, 1) := by decide +kernel
theorem dX11_pair_0 : decode cX11_pair 0 = .ok (.iload_n 1, 1) := by decide +kernel
theorem dX11_pair_1 : decode cX11_pair 1 = .ok (.invokestatic 139, 3) := by decide +kernel
theorem dX11_pair_4 : decode cX11_pair 4 = .ok (.ifCond .ne 9, 3) := by decide +kernel
theorem dX11_pair_7 : decode cX11_pair 7 = .ok (.aload_n 0, 1) := by decide +kernel
theorem dX11_pair_8 : decode cX11_pair 8 = .ok (.iconst (-1), 1) := by decide +kernel
theorem dX11_pair_9 : decode cX11_pair 9 = .ok (.invokevirtual 69, 3) := by decide +kernel
theorem dX11_pair_12 : decode cX11_pair 12 = .ok (.ireturn, 1) := by decide +kernel
theorem dX11_pair_13 : decode cX11_pair 13 = .ok (.aload_n 0, 1) := by decide +kernel
theorem dX11_pair_14 : decode cX11_pair 14 = .ok (.getfield 28, 3) := by decide +kernel
theorem dX11_pair_17 : decode cX11_pair 17 = .ok (.getfield 142, 3) := by decide +kernel
theorem dX11_pair_20 : decode cX11_pair 20 = .ok (.getfield 146, 3) := by decide +kernel
theorem dX11_pair_23 : decode cX11_pair 23 = .ok (.iconst 4, 1) := by decide +kernel
theorem dX11_pair_24 : decode cX11_pair 24 = .ok (.if_icmp .ne 10, 3) := by decide +kernel
theorem dX11_pair_27 : decode cX11_pair 27 = .ok (.aload_n 0, 1) := by decide +kernel
theorem dX11_pair_28 : decode cX11_pair 28 = .ok (.bipush (-6), 2) := by decide +kernel
theorem dX11_pair_30 : decode cX11_pair 30 = .ok (.invokevirtual 69, 3) := by decide +kernel
theorem dX11_pair_33 : decode cX11_pair 33 = .ok (.ireturn, 1) := by decide +kernel
theorem dX11_pair_34 : decode cX11_pair 34 = .ok (.aload_n 0, 1) := by decide +kernel
theorem dX11_pair_35 : decode cX11_pair 35 = .ok (.getfield 28, 3) := by decide +kernel
theorem dX11_pair_38 : decode cX11_pair 38 = .ok (.getfield 142, 3) := by decide +kernel
theorem dX11_pair_41 : decode cX11_pair 41 = .ok (.iload_n 1, 1) := by decide +kernel
theorem dX11_pair_42 : decode cX11_pair 42 = .ok (.invokevirtual 151, 3) := by decide +kernel
theorem dX11_pair_45 : decode cX11_pair 45 = .ok (.ireturn, 1) := by decide +kernel
theorem dX11_wire_0 : decode cX11_wire 0 = .ok (.aload_n 0, 1) := by decide +kernel
theorem dX11_wire_1 : decode cX11_wire 1 = .ok (.iload_n 1, 1) := by decide +kernel
theorem dX11_wire_2 : decode cX11_wire 2 = .ok (.invokevirtual 154, 3) := by decide +kernel
theorem dX11_wire_5 : decode cX11_wire 5 = .ok (.ifCond .eq 12, 3) := by decide +kernel
theorem dX11_wire_8 : decode cX11_wire 8 = .ok (.iload_n 2, 1) := by decide +kernel
