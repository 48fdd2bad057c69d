theorem d_B_init_0 : decode c_B_init 0 = .ok (.aload_n 0, 1) := by decide +kernel
theorem d_B_init_1 : decode c_B_init 1 = .ok (.invokespecial 3, 3) := by decide +kernel
theorem d_B_init_4 : decode c_B_init 4 = .ok (.aload_n 0, 1) := by decide +kernel
theorem d_B_init_5 : decode c_B_init 5 = .ok (.bipush 8, 2) := by decide +kernel
theorem d_B_init_7 : decode c_B_init 7 = .ok (.newarray .int, 2) := by decide +kernel
theorem d_B_init_9 : decode c_B_init 9 = .ok (.putfield 9, 3) := by decide +kernel
theorem d_B_init_12 : decode c_B_init 12 = .ok (.aload_n 0, 1) := by decide +kernel
theorem d_B_init_13 : decode c_B_init 13 = .ok (.bipush 8, 2) := by decide +kernel
theorem d_B_init_15 : decode c_B_init 15 = .ok (.newarray .int, 2) := by decide +kernel
theorem d_B_init_17 : decode c_B_init 17 = .ok (.putfield 15, 3) := by decide +kernel
theorem d_B_init_20 : decode c_B_init 20 = .ok (.aload_n 0, 1) := by decide +kernel
theorem d_B_init_21 : decode c_B_init 21 = .ok (.bipush 8, 2) := by decide +kernel
theorem d_B_init_23 : decode c_B_init 23 = .ok (.newarray .int, 2) := by decide +kernel
theorem d_B_init_25 : decode c_B_init 25 = .ok (.putfield 18, 3) := by decide +kernel
theorem d_B_init_28 : decode c_B_init 28 = .ok (.aload_n 0, 1) := by decide +kernel
theorem d_B_init_29 : decode c_B_init 29 = .ok (.bipush 8, 2) := by decide +kernel
theorem d_B_init_31 : decode c_B_init 31 = .ok (.newarray .int, 2) := by decide +kernel
theorem d_B_init_33 : decode c_B_init 33 = .ok (.putfield 21, 3) := by decide +kernel
theorem d_B_init_36 : decode c_B_init 36 = .ok (.aload_n 0, 1) := by decide +kernel
theorem d_B_init_37 : decode c_B_init 37 = .ok (.bipush 8, 2) := by decide +kernel
theorem d_B_init_39 : decode c_B_init 39 = .ok (.newarray .int, 2) := by decide +kernel
theorem d_B_init_41 : decode c_B_init 41 = .ok (.putfield 24, 3) := by decide +kernel
theorem d_B_init_44 : decode c_B_init 44 = .ok (.return_, 1) := by decide +kernel
theorem d_B_add_0 : decode c_B_add 0 = .ok (.aload_n 0, 1) := by decide +kernel
theorem d_B_add_1 : decode c_B_add 1 = .ok (.getfield 27, 3) := by decide +kernel
theorem d_B_add_4 : decode c_B_add 4 = .ok (.bipush 8, 2) := by decide +kernel
theorem d_B_add_6 : decode c_B_add 6 = .ok (.if_icmp .lt 5, 3) := by decide +kernel
theorem d_B_add_9 : decode c_B_add 9 = .ok (.iconst (-1), 1) := by decide +kernel
theorem d_B_add_10 : decode c_B_add 10 = .ok (.ireturn, 1) := by decide +kernel
theorem d_B_add_11 : decode c_B_add 11 = .ok (.aload_n 0, 1) := by decide +kernel
theorem d_B_add_12 : decode c_B_add 12 = .ok (.getfield 27, 3) := by decide +kernel
theorem d_B_add_15 : decode c_B_add 15 = .ok (.istore 6, 2) := by decide +kernel
theorem d_B_add_17 : decode c_B_add 17 = .ok (.aload_n 0, 1) := by decide +kernel
theorem d_B_add_18 : decode c_B_add 18 = .ok (.getfield 9, 3) := by decide +kernel
theorem d_B_add_21 : decode c_B_add 21 = .ok (.iload 6, 2) := by decide +kernel
theorem d_B_add_23 : decode c_B_add 23 = .ok (.iload_n 1, 1) := by decide +kernel
theorem d_B_add_24 : decode c_B_add 24 = .ok (.iastore, 1) := by decide +kernel
theorem d_B_add_25 : decode c_B_add 25 = .ok (.aload_n 0, 1) := by decide +kernel
theorem d_B_add_26 : decode c_B_add 26 = .ok (.getfield 15, 3) := by decide +kernel
theorem d_B_add_29 : decode c_B_add 29 = .ok (.iload 6, 2) := by decide +kernel
theorem d_B_add_31 : decode c_B_add 31 = .ok (.iload_n 2, 1) := by decide +kernel
theorem d_B_add_32 : decode c_B_add 32 = .ok (.iastore, 1) := by decide +kernel
theorem d_B_add_33 : decode c_B_add 33 = .ok (.aload_n 0, 1) := by decide +kernel
theorem d_B_add_34 : decode c_B_add 34 = .ok (.getfield 18, 3) := by decide +kernel
theorem d_B_add_37 : decode c_B_add 37 = .ok (.iload 6, 2) := by decide +kernel
theorem d_B_add_39 : decode c_B_add 39 = .ok (.iload_n 3, 1) := by decide +kernel
theorem d_B_add_40 : decode c_B_add 40 = .ok (.iastore, 1) := by decide +kernel
theorem d_B_add_41 : decode c_B_add 41 = .ok (.aload_n 0, 1) := by decide +kernel
theorem d_B_add_42 : decode c_B_add 42 = .ok (.getfield 21, 3) := by decide +kernel
theorem d_B_add_45 : decode c_B_add 45 = .ok (.iload 6, 2) := by decide +kernel
theorem d_B_add_47 : decode c_B_add 47 = .ok (.iload 4, 2) := by decide +kernel
theorem d_B_add_49 : decode c_B_add 49 = .ok (.iastore, 1) := by decide +kernel
theorem d_B_add_50 : decode c_B_add 50 = .ok (.aload_n 0, 1) := by decide +kernel
theorem d_B_add_51 : decode c_B_add 51 = .ok (.getfield 24, 3) := by decide +kernel
theorem d_B_add_54 : decode c_B_add 54 = .ok (.iload 6, 2) := by decide +kernel
theorem d_B_add_56 : decode c_B_add 56 = .ok (.iload 5, 2) := by decide +kernel
theorem d_B_add_58 : decode c_B_add 58 = .ok (.iastore, 1) := by decide +kernel
theorem d_B_add_59 : decode c_B_add 59 = .ok (.aload_n 0, 1) := by decide +kernel
theorem d_B_add_60 : decode c_B_add 60 = .ok (.dup, 1) := by decide +kernel
theorem d_B_add_61 : decode c_B_add 61 = .ok (.getfield 27, 3) := by decide +kernel
theorem d_B_add_64 : decode c_B_add 64 = .ok (.iconst 1, 1) := by decide +kernel
theorem d_B_add_65 : decode c_B_add 65 = .ok (.iadd, 1) := by decide +kernel
theorem d_B_add_66 : decode c_B_add 66 = .ok (.putfield 27, 3) := by decide +kernel
theorem d_B_add_69 : decode c_B_add 69 = .ok (.iload 6, 2) := by decide +kernel
theorem d_B_add_71 : decode c_B_add 71 = .ok (.ireturn, 1) := by decide +kernel
theorem d_B_firstAcross_0 : decode c_B_firstAcross 0 = .ok (.iconst 0, 1) := by decide +kernel
theorem d_B_firstAcross_1 : decode c_B_firstAcross 1 = .ok (.istore 7, 2) := by decide +kernel
theorem d_B_firstAcross_3 : decode c_B_firstAcross 3 = .ok (.iload 7, 2) := by decide +kernel
theorem d_B_firstAcross_5 : decode c_B_firstAcross 5 = .ok (.aload_n 0, 1) := by decide +kernel
theorem d_B_firstAcross_6 : decode c_B_firstAcross 6 = .ok (.getfield 27, 3) := by decide +kernel
theorem d_B_firstAcross_9 : decode c_B_firstAcross 9 = .ok (.if_icmp .ge 100, 3) := by decide +kernel
theorem d_B_firstAcross_12 : decode c_B_firstAcross 12 = .ok (.aload_n 0, 1) := by decide +kernel
theorem d_B_firstAcross_13 : decode c_B_firstAcross 13 = .ok (.invokevirtual 31, 3) := by decide +kernel
theorem d_B_firstAcross_16 : decode c_B_firstAcross 16 = .ok (.aload_n 0, 1) := by decide +kernel
theorem d_B_firstAcross_17 : decode c_B_firstAcross 17 = .ok (.iload_n 1, 1) := by decide +kernel
theorem d_B_firstAcross_18 : decode c_B_firstAcross 18 = .ok (.iload 4, 2) := by decide +kernel
theorem d_B_firstAcross_20 : decode c_B_firstAcross 20 = .ok (.iload_n 1, 1) := by decide +kernel
theorem d_B_firstAcross_21 : decode c_B_firstAcross 21 = .ok (.isub, 1) := by decide +kernel
theorem d_B_firstAcross_22 : decode c_B_firstAcross 22 = .ok (.aload_n 0, 1) := by decide +kernel
theorem d_B_firstAcross_23 : decode c_B_firstAcross 23 = .ok (.getfield 9, 3) := by decide +kernel
theorem d_B_firstAcross_26 : decode c_B_firstAcross 26 = .ok (.iload 7, 2) := by decide +kernel
theorem d_B_firstAcross_28 : decode c_B_firstAcross 28 = .ok (.iaload, 1) := by decide +kernel
theorem d_B_firstAcross_29 : decode c_B_firstAcross 29 = .ok (.aload_n 0, 1) := by decide +kernel
theorem d_B_firstAcross_30 : decode c_B_firstAcross 30 = .ok (.getfield 18, 3) := by decide +kernel
theorem d_B_firstAcross_33 : decode c_B_firstAcross 33 = .ok (.iload 7, 2) := by decide +kernel
theorem d_B_firstAcross_35 : decode c_B_firstAcross 35 = .ok (.iaload, 1) := by decide +kernel
theorem d_B_firstAcross_36 : decode c_B_firstAcross 36 = .ok (.invokevirtual 34, 3) := by decide +kernel
theorem d_B_firstAcross_39 : decode c_B_firstAcross 39 = .ok (.ifCond .eq 33, 3) := by decide +kernel
theorem d_B_firstAcross_42 : decode c_B_firstAcross 42 = .ok (.aload_n 0, 1) := by decide +kernel
theorem d_B_firstAcross_43 : decode c_B_firstAcross 43 = .ok (.iload_n 2, 1) := by decide +kernel
theorem d_B_firstAcross_44 : decode c_B_firstAcross 44 = .ok (.iload 5, 2) := by decide +kernel
theorem d_B_firstAcross_46 : decode c_B_firstAcross 46 = .ok (.iload_n 2, 1) := by decide +kernel
theorem d_B_firstAcross_47 : decode c_B_firstAcross 47 = .ok (.isub, 1) := by decide +kernel
theorem d_B_firstAcross_48 : decode c_B_firstAcross 48 = .ok (.aload_n 0, 1) := by decide +kernel
theorem d_B_firstAcross_49 : decode c_B_firstAcross 49 = .ok (.getfield 15, 3) := by decide +kernel
theorem d_B_firstAcross_52 : decode c_B_firstAcross 52 = .ok (.iload 7, 2) := by decide +kernel
theorem d_B_firstAcross_54 : decode c_B_firstAcross 54 = .ok (.iaload, 1) := by decide +kernel
theorem d_B_firstAcross_55 : decode c_B_firstAcross 55 = .ok (.aload_n 0, 1) := by decide +kernel
theorem d_B_firstAcross_56 : decode c_B_firstAcross 56 = .ok (.getfield 21, 3) := by decide +kernel
theorem d_B_firstAcross_59 : decode c_B_firstAcross 59 = .ok (.iload 7, 2) := by decide +kernel
theorem d_B_firstAcross_61 : decode c_B_firstAcross 61 = .ok (.iaload, 1) := by decide +kernel
theorem d_B_firstAcross_62 : decode c_B_firstAcross 62 = .ok (.invokevirtual 34, 3) := by decide +kernel
theorem d_B_firstAcross_65 : decode c_B_firstAcross 65 = .ok (.ifCond .eq 7, 3) := by decide +kernel
theorem d_B_firstAcross_68 : decode c_B_firstAcross 68 = .ok (.iconst 1, 1) := by decide +kernel
theorem d_B_firstAcross_69 : decode c_B_firstAcross 69 = .ok (.goto 4, 3) := by decide +kernel
theorem d_B_firstAcross_72 : decode c_B_firstAcross 72 = .ok (.iconst 0, 1) := by decide +kernel
theorem d_B_firstAcross_73 : decode c_B_firstAcross 73 = .ok (.istore 8, 2) := by decide +kernel
theorem d_B_firstAcross_75 : decode c_B_firstAcross 75 = .ok (.iload 8, 2) := by decide +kernel
theorem d_B_firstAcross_77 : decode c_B_firstAcross 77 = .ok (.ifCond .eq 26, 3) := by decide +kernel
theorem d_B_firstAcross_80 : decode c_B_firstAcross 80 = .ok (.aload_n 0, 1) := by decide +kernel
theorem d_B_firstAcross_81 : decode c_B_firstAcross 81 = .ok (.aload_n 0, 1) := by decide +kernel
theorem d_B_firstAcross_82 : decode c_B_firstAcross 82 = .ok (.getfield 24, 3) := by decide +kernel
theorem d_B_firstAcross_85 : decode c_B_firstAcross 85 = .ok (.iload 7, 2) := by decide +kernel
theorem d_B_firstAcross_87 : decode c_B_firstAcross 87 = .ok (.iaload, 1) := by decide +kernel
theorem d_B_firstAcross_88 : decode c_B_firstAcross 88 = .ok (.i2l, 1) := by decide +kernel
theorem d_B_firstAcross_89 : decode c_B_firstAcross 89 = .ok (.iload_n 3, 1) := by decide +kernel
theorem d_B_firstAcross_90 : decode c_B_firstAcross 90 = .ok (.i2l, 1) := by decide +kernel
theorem d_B_firstAcross_91 : decode c_B_firstAcross 91 = .ok (.iload 6, 2) := by decide +kernel
theorem d_B_firstAcross_93 : decode c_B_firstAcross 93 = .ok (.i2l, 1) := by decide +kernel
theorem d_B_firstAcross_94 : decode c_B_firstAcross 94 = .ok (.invokevirtual 38, 3) := by decide +kernel
theorem d_B_firstAcross_97 : decode c_B_firstAcross 97 = .ok (.ifCond .eq 6, 3) := by decide +kernel
theorem d_B_firstAcross_100 : decode c_B_firstAcross 100 = .ok (.iload 7, 2) := by decide +kernel
theorem d_B_firstAcross_102 : decode c_B_firstAcross 102 = .ok (.ireturn, 1) := by decide +kernel
theorem d_B_firstAcross_103 : decode c_B_firstAcross 103 = .ok (.iinc 7 1, 3) := by decide +kernel
theorem d_B_firstAcross_106 : decode c_B_firstAcross 106 = .ok (.goto (-103), 3) := by decide +kernel
theorem d_B_firstAcross_109 : decode c_B_firstAcross 109 = .ok (.iconst (-1), 1) := by decide +kernel
theorem d_B_firstAcross_110 : decode c_B_firstAcross 110 = .ok (.ireturn, 1) := by decide +kernel
theorem d_B_takeWhole_0 : decode c_B_takeWhole 0 = .ok (.aload_n 0, 1) := by decide +kernel
theorem d_B_takeWhole_1 : decode c_B_takeWhole 1 = .ok (.lconst 0, 1) := by decide +kernel
theorem d_B_takeWhole_2 : decode c_B_takeWhole 2 = .ok (.putfield 42, 3) := by decide +kernel
theorem d_B_takeWhole_5 : decode c_B_takeWhole 5 = .ok (.aload_n 0, 1) := by decide +kernel
theorem d_B_takeWhole_6 : decode c_B_takeWhole 6 = .ok (.lconst 1, 1) := by decide +kernel
theorem d_B_takeWhole_7 : decode c_B_takeWhole 7 = .ok (.putfield 46, 3) := by decide +kernel
theorem d_B_takeWhole_10 : decode c_B_takeWhole 10 = .ok (.aload_n 0, 1) := by decide +kernel
theorem d_B_takeWhole_11 : decode c_B_takeWhole 11 = .ok (.lconst 1, 1) := by decide +kernel
theorem d_B_takeWhole_12 : decode c_B_takeWhole 12 = .ok (.putfield 49, 3) := by decide +kernel
theorem d_B_takeWhole_15 : decode c_B_takeWhole 15 = .ok (.aload_n 0, 1) := by decide +kernel
theorem d_B_takeWhole_16 : decode c_B_takeWhole 16 = .ok (.lconst 1, 1) := by decide +kernel
theorem d_B_takeWhole_17 : decode c_B_takeWhole 17 = .ok (.putfield 52, 3) := by decide +kernel
theorem d_B_takeWhole_20 : decode c_B_takeWhole 20 = .ok (.return_, 1) := by decide +kernel
theorem d_B_narrow_0 : decode c_B_narrow 0 = .ok (.iload_n 2, 1) := by decide +kernel
theorem d_B_narrow_1 : decode c_B_narrow 1 = .ok (.ifCond .ne 20, 3) := by decide +kernel
theorem d_B_narrow_4 : decode c_B_narrow 4 = .ok (.iload_n 3, 1) := by decide +kernel
theorem d_B_narrow_5 : decode c_B_narrow 5 = .ok (.iload_n 1, 1) := by decide +kernel
theorem d_B_narrow_6 : decode c_B_narrow 6 = .ok (.if_icmp .gt 13, 3) := by decide +kernel
theorem d_B_narrow_9 : decode c_B_narrow 9 = .ok (.iload_n 1, 1) := by decide +kernel
theorem d_B_narrow_10 : decode c_B_narrow 10 = .ok (.iload 4, 2) := by decide +kernel
theorem d_B_narrow_12 : decode c_B_narrow 12 = .ok (.if_icmp .gt 7, 3) := by decide +kernel
theorem d_B_narrow_15 : decode c_B_narrow 15 = .ok (.iconst 1, 1) := by decide +kernel
theorem d_B_narrow_16 : decode c_B_narrow 16 = .ok (.goto 4, 3) := by decide +kernel
theorem d_B_narrow_19 : decode c_B_narrow 19 = .ok (.iconst 0, 1) := by decide +kernel
theorem d_B_narrow_20 : decode c_B_narrow 20 = .ok (.ireturn, 1) := by decide +kernel
theorem d_B_narrow_21 : decode c_B_narrow 21 = .ok (.iload_n 2, 1) := by decide +kernel
theorem d_B_narrow_22 : decode c_B_narrow 22 = .ok (.invokestatic 55, 3) := by decide +kernel
theorem d_B_narrow_25 : decode c_B_narrow 25 = .ok (.i2l, 1) := by decide +kernel
theorem d_B_narrow_26 : decode c_B_narrow 26 = .ok (.lstore 5, 2) := by decide +kernel
theorem d_B_narrow_28 : decode c_B_narrow 28 = .ok (.iload_n 2, 1) := by decide +kernel
theorem d_B_narrow_29 : decode c_B_narrow 29 = .ok (.ifCond .le 10, 3) := by decide +kernel
theorem d_B_narrow_32 : decode c_B_narrow 32 = .ok (.iload_n 3, 1) := by decide +kernel
theorem d_B_narrow_33 : decode c_B_narrow 33 = .ok (.iload_n 1, 1) := by decide +kernel
theorem d_B_narrow_34 : decode c_B_narrow 34 = .ok (.isub, 1) := by decide +kernel
theorem d_B_narrow_35 : decode c_B_narrow 35 = .ok (.i2l, 1) := by decide +kernel
theorem d_B_narrow_36 : decode c_B_narrow 36 = .ok (.goto 8, 3) := by decide +kernel
theorem d_B_narrow_39 : decode c_B_narrow 39 = .ok (.iload_n 1, 1) := by decide +kernel
theorem d_B_narrow_40 : decode c_B_narrow 40 = .ok (.iload 4, 2) := by decide +kernel
theorem d_B_narrow_42 : decode c_B_narrow 42 = .ok (.isub, 1) := by decide +kernel
theorem d_B_narrow_43 : decode c_B_narrow 43 = .ok (.i2l, 1) := by decide +kernel
theorem d_B_narrow_44 : decode c_B_narrow 44 = .ok (.lstore 7, 2) := by decide +kernel
theorem d_B_narrow_46 : decode c_B_narrow 46 = .ok (.iload_n 2, 1) := by decide +kernel
theorem d_B_narrow_47 : decode c_B_narrow 47 = .ok (.ifCond .le 11, 3) := by decide +kernel
theorem d_B_narrow_50 : decode c_B_narrow 50 = .ok (.iload 4, 2) := by decide +kernel
theorem d_B_narrow_52 : decode c_B_narrow 52 = .ok (.iload_n 1, 1) := by decide +kernel
theorem d_B_narrow_53 : decode c_B_narrow 53 = .ok (.isub, 1) := by decide +kernel
theorem d_B_narrow_54 : decode c_B_narrow 54 = .ok (.i2l, 1) := by decide +kernel
theorem d_B_narrow_55 : decode c_B_narrow 55 = .ok (.goto 7, 3) := by decide +kernel
theorem d_B_narrow_58 : decode c_B_narrow 58 = .ok (.iload_n 1, 1) := by decide +kernel
theorem d_B_narrow_59 : decode c_B_narrow 59 = .ok (.iload_n 3, 1) := by decide +kernel
theorem d_B_narrow_60 : decode c_B_narrow 60 = .ok (.isub, 1) := by decide +kernel
theorem d_B_narrow_61 : decode c_B_narrow 61 = .ok (.i2l, 1) := by decide +kernel
theorem d_B_narrow_62 : decode c_B_narrow 62 = .ok (.lstore 9, 2) := by decide +kernel
theorem d_B_narrow_64 : decode c_B_narrow 64 = .ok (.lload 7, 2) := by decide +kernel
theorem d_B_narrow_66 : decode c_B_narrow 66 = .ok (.aload_n 0, 1) := by decide +kernel
theorem d_B_narrow_67 : decode c_B_narrow 67 = .ok (.getfield 46, 3) := by decide +kernel
theorem d_B_narrow_70 : decode c_B_narrow 70 = .ok (.lmul, 1) := by decide +kernel
theorem d_B_narrow_71 : decode c_B_narrow 71 = .ok (.aload_n 0, 1) := by decide +kernel
theorem d_B_narrow_72 : decode c_B_narrow 72 = .ok (.getfield 42, 3) := by decide +kernel
theorem d_B_narrow_75 : decode c_B_narrow 75 = .ok (.lload 5, 2) := by decide +kernel
theorem d_B_narrow_77 : decode c_B_narrow 77 = .ok (.lmul, 1) := by decide +kernel
theorem d_B_narrow_78 : decode c_B_narrow 78 = .ok (.lcmp, 1) := by decide +kernel
theorem d_B_narrow_79 : decode c_B_narrow 79 = .ok (.ifCond .le 15, 3) := by decide +kernel
theorem d_B_narrow_82 : decode c_B_narrow 82 = .ok (.aload_n 0, 1) := by decide +kernel
theorem d_B_narrow_83 : decode c_B_narrow 83 = .ok (.lload 7, 2) := by decide +kernel
theorem d_B_narrow_85 : decode c_B_narrow 85 = .ok (.putfield 42, 3) := by decide +kernel
theorem d_B_narrow_88 : decode c_B_narrow 88 = .ok (.aload_n 0, 1) := by decide +kernel
theorem d_B_narrow_89 : decode c_B_narrow 89 = .ok (.lload 5, 2) := by decide +kernel
theorem d_B_narrow_91 : decode c_B_narrow 91 = .ok (.putfield 46, 3) := by decide +kernel
theorem d_B_narrow_94 : decode c_B_narrow 94 = .ok (.lload 9, 2) := by decide +kernel
theorem d_B_narrow_96 : decode c_B_narrow 96 = .ok (.aload_n 0, 1) := by decide +kernel
theorem d_B_narrow_97 : decode c_B_narrow 97 = .ok (.getfield 52, 3) := by decide +kernel
theorem d_B_narrow_100 : decode c_B_narrow 100 = .ok (.lmul, 1) := by decide +kernel
theorem d_B_narrow_101 : decode c_B_narrow 101 = .ok (.aload_n 0, 1) := by decide +kernel
theorem d_B_narrow_102 : decode c_B_narrow 102 = .ok (.getfield 49, 3) := by decide +kernel
theorem d_B_narrow_105 : decode c_B_narrow 105 = .ok (.lload 5, 2) := by decide +kernel
theorem d_B_narrow_107 : decode c_B_narrow 107 = .ok (.lmul, 1) := by decide +kernel
theorem d_B_narrow_108 : decode c_B_narrow 108 = .ok (.lcmp, 1) := by decide +kernel
theorem d_B_narrow_109 : decode c_B_narrow 109 = .ok (.ifCond .ge 15, 3) := by decide +kernel
theorem d_B_narrow_112 : decode c_B_narrow 112 = .ok (.aload_n 0, 1) := by decide +kernel
theorem d_B_narrow_113 : decode c_B_narrow 113 = .ok (.lload 9, 2) := by decide +kernel
theorem d_B_narrow_115 : decode c_B_narrow 115 = .ok (.putfield 49, 3) := by decide +kernel
theorem d_B_narrow_118 : decode c_B_narrow 118 = .ok (.aload_n 0, 1) := by decide +kernel
theorem d_B_narrow_119 : decode c_B_narrow 119 = .ok (.lload 5, 2) := by decide +kernel
theorem d_B_narrow_121 : decode c_B_narrow 121 = .ok (.putfield 52, 3) := by decide +kernel
theorem d_B_narrow_124 : decode c_B_narrow 124 = .ok (.aload_n 0, 1) := by decide +kernel
theorem d_B_narrow_125 : decode c_B_narrow 125 = .ok (.getfield 42, 3) := by decide +kernel
theorem d_B_narrow_128 : decode c_B_narrow 128 = .ok (.aload_n 0, 1) := by decide +kernel
theorem d_B_narrow_129 : decode c_B_narrow 129 = .ok (.getfield 52, 3) := by decide +kernel
theorem d_B_narrow_132 : decode c_B_narrow 132 = .ok (.lmul, 1) := by decide +kernel
theorem d_B_narrow_133 : decode c_B_narrow 133 = .ok (.aload_n 0, 1) := by decide +kernel
theorem d_B_narrow_134 : decode c_B_narrow 134 = .ok (.getfield 49, 3) := by decide +kernel
theorem d_B_narrow_137 : decode c_B_narrow 137 = .ok (.aload_n 0, 1) := by decide +kernel
theorem d_B_narrow_138 : decode c_B_narrow 138 = .ok (.getfield 46, 3) := by decide +kernel
theorem d_B_narrow_141 : decode c_B_narrow 141 = .ok (.lmul, 1) := by decide +kernel
theorem d_B_narrow_142 : decode c_B_narrow 142 = .ok (.lcmp, 1) := by decide +kernel
theorem d_B_narrow_143 : decode c_B_narrow 143 = .ok (.ifCond .gt 7, 3) := by decide +kernel
theorem d_B_narrow_146 : decode c_B_narrow 146 = .ok (.iconst 1, 1) := by decide +kernel
theorem d_B_narrow_147 : decode c_B_narrow 147 = .ok (.goto 4, 3) := by decide +kernel
theorem d_B_narrow_150 : decode c_B_narrow 150 = .ok (.iconst 0, 1) := by decide +kernel
theorem d_B_narrow_151 : decode c_B_narrow 151 = .ok (.ireturn, 1) := by decide +kernel
theorem d_B_dipsBelow_0 : decode c_B_dipsBelow 0 = .ok (.aload_n 0, 1) := by decide +kernel
theorem d_B_dipsBelow_1 : decode c_B_dipsBelow 1 = .ok (.getfield 46, 3) := by decide +kernel
theorem d_B_dipsBelow_4 : decode c_B_dipsBelow 4 = .ok (.aload_n 0, 1) := by decide +kernel
theorem d_B_dipsBelow_5 : decode c_B_dipsBelow 5 = .ok (.getfield 42, 3) := by decide +kernel
theorem d_B_dipsBelow_8 : decode c_B_dipsBelow 8 = .ok (.lsub, 1) := by decide +kernel
theorem d_B_dipsBelow_9 : decode c_B_dipsBelow 9 = .ok (.lload_n 3, 1) := by decide +kernel
theorem d_B_dipsBelow_10 : decode c_B_dipsBelow 10 = .ok (.lmul, 1) := by decide +kernel
theorem d_B_dipsBelow_11 : decode c_B_dipsBelow 11 = .ok (.aload_n 0, 1) := by decide +kernel
theorem d_B_dipsBelow_12 : decode c_B_dipsBelow 12 = .ok (.getfield 42, 3) := by decide +kernel
theorem d_B_dipsBelow_15 : decode c_B_dipsBelow 15 = .ok (.lload 5, 2) := by decide +kernel
theorem d_B_dipsBelow_17 : decode c_B_dipsBelow 17 = .ok (.lmul, 1) := by decide +kernel
theorem d_B_dipsBelow_18 : decode c_B_dipsBelow 18 = .ok (.ladd, 1) := by decide +kernel
theorem d_B_dipsBelow_19 : decode c_B_dipsBelow 19 = .ok (.lstore 7, 2) := by decide +kernel
theorem d_B_dipsBelow_21 : decode c_B_dipsBelow 21 = .ok (.aload_n 0, 1) := by decide +kernel
theorem d_B_dipsBelow_22 : decode c_B_dipsBelow 22 = .ok (.getfield 52, 3) := by decide +kernel
theorem d_B_dipsBelow_25 : decode c_B_dipsBelow 25 = .ok (.aload_n 0, 1) := by decide +kernel
theorem d_B_dipsBelow_26 : decode c_B_dipsBelow 26 = .ok (.getfield 49, 3) := by decide +kernel
theorem d_B_dipsBelow_29 : decode c_B_dipsBelow 29 = .ok (.lsub, 1) := by decide +kernel
theorem d_B_dipsBelow_30 : decode c_B_dipsBelow 30 = .ok (.lload_n 3, 1) := by decide +kernel
theorem d_B_dipsBelow_31 : decode c_B_dipsBelow 31 = .ok (.lmul, 1) := by decide +kernel
theorem d_B_dipsBelow_32 : decode c_B_dipsBelow 32 = .ok (.aload_n 0, 1) := by decide +kernel
theorem d_B_dipsBelow_33 : decode c_B_dipsBelow 33 = .ok (.getfield 49, 3) := by decide +kernel
theorem d_B_dipsBelow_36 : decode c_B_dipsBelow 36 = .ok (.lload 5, 2) := by decide +kernel
theorem d_B_dipsBelow_38 : decode c_B_dipsBelow 38 = .ok (.lmul, 1) := by decide +kernel
theorem d_B_dipsBelow_39 : decode c_B_dipsBelow 39 = .ok (.ladd, 1) := by decide +kernel
theorem d_B_dipsBelow_40 : decode c_B_dipsBelow 40 = .ok (.lstore 9, 2) := by decide +kernel
theorem d_B_dipsBelow_42 : decode c_B_dipsBelow 42 = .ok (.lload 7, 2) := by decide +kernel
theorem d_B_dipsBelow_44 : decode c_B_dipsBelow 44 = .ok (.lload_n 1, 1) := by decide +kernel
theorem d_B_dipsBelow_45 : decode c_B_dipsBelow 45 = .ok (.aload_n 0, 1) := by decide +kernel
theorem d_B_dipsBelow_46 : decode c_B_dipsBelow 46 = .ok (.getfield 46, 3) := by decide +kernel
theorem d_B_dipsBelow_49 : decode c_B_dipsBelow 49 = .ok (.lmul, 1) := by decide +kernel
theorem d_B_dipsBelow_50 : decode c_B_dipsBelow 50 = .ok (.lcmp, 1) := by decide +kernel
theorem d_B_dipsBelow_51 : decode c_B_dipsBelow 51 = .ok (.ifCond .lt 15, 3) := by decide +kernel
theorem d_B_dipsBelow_54 : decode c_B_dipsBelow 54 = .ok (.lload 9, 2) := by decide +kernel
theorem d_B_dipsBelow_56 : decode c_B_dipsBelow 56 = .ok (.lload_n 1, 1) := by decide +kernel
theorem d_B_dipsBelow_57 : decode c_B_dipsBelow 57 = .ok (.aload_n 0, 1) := by decide +kernel
theorem d_B_dipsBelow_58 : decode c_B_dipsBelow 58 = .ok (.getfield 52, 3) := by decide +kernel
theorem d_B_dipsBelow_61 : decode c_B_dipsBelow 61 = .ok (.lmul, 1) := by decide +kernel
theorem d_B_dipsBelow_62 : decode c_B_dipsBelow 62 = .ok (.lcmp, 1) := by decide +kernel
theorem d_B_dipsBelow_63 : decode c_B_dipsBelow 63 = .ok (.ifCond .ge 7, 3) := by decide +kernel
theorem d_B_dipsBelow_66 : decode c_B_dipsBelow 66 = .ok (.iconst 1, 1) := by decide +kernel
theorem d_B_dipsBelow_67 : decode c_B_dipsBelow 67 = .ok (.goto 4, 3) := by decide +kernel
theorem d_B_dipsBelow_70 : decode c_B_dipsBelow 70 = .ok (.iconst 0, 1) := by decide +kernel
theorem d_B_dipsBelow_71 : decode c_B_dipsBelow 71 = .ok (.ireturn, 1) := by decide +kernel
