theorem d_M_init_0 : decode c_M_init 0 = .ok (.aload_n 0, 1) := by decide +kernel
theorem d_M_init_1 : decode c_M_init 1 = .ok (.invokespecial 1, 3) := by decide +kernel
theorem d_M_init_4 : decode c_M_init 4 = .ok (.aload_n 0, 1) := by decide +kernel
theorem d_M_init_5 : decode c_M_init 5 = .ok (.bipush 60, 2) := by decide +kernel
theorem d_M_init_7 : decode c_M_init 7 = .ok (.newarray .int, 2) := by decide +kernel
theorem d_M_init_9 : decode c_M_init 9 = .ok (.putfield 7, 3) := by decide +kernel
theorem d_M_init_12 : decode c_M_init 12 = .ok (.aload_n 0, 1) := by decide +kernel
theorem d_M_init_13 : decode c_M_init 13 = .ok (.bipush 60, 2) := by decide +kernel
theorem d_M_init_15 : decode c_M_init 15 = .ok (.newarray .int, 2) := by decide +kernel
theorem d_M_init_17 : decode c_M_init 17 = .ok (.putfield 13, 3) := by decide +kernel
theorem d_M_init_20 : decode c_M_init 20 = .ok (.aload_n 0, 1) := by decide +kernel
theorem d_M_init_21 : decode c_M_init 21 = .ok (.bipush 60, 2) := by decide +kernel
theorem d_M_init_23 : decode c_M_init 23 = .ok (.newarray .int, 2) := by decide +kernel
theorem d_M_init_25 : decode c_M_init 25 = .ok (.putfield 16, 3) := by decide +kernel
theorem d_M_init_28 : decode c_M_init 28 = .ok (.aload_n 0, 1) := by decide +kernel
theorem d_M_init_29 : decode c_M_init 29 = .ok (.bipush 60, 2) := by decide +kernel
theorem d_M_init_31 : decode c_M_init 31 = .ok (.newarray .int, 2) := by decide +kernel
theorem d_M_init_33 : decode c_M_init 33 = .ok (.putfield 19, 3) := by decide +kernel
theorem d_M_init_36 : decode c_M_init 36 = .ok (.aload_n 0, 1) := by decide +kernel
theorem d_M_init_37 : decode c_M_init 37 = .ok (.bipush 60, 2) := by decide +kernel
theorem d_M_init_39 : decode c_M_init 39 = .ok (.newarray .int, 2) := by decide +kernel
theorem d_M_init_41 : decode c_M_init 41 = .ok (.putfield 22, 3) := by decide +kernel
theorem d_M_init_44 : decode c_M_init 44 = .ok (.aload_n 0, 1) := by decide +kernel
theorem d_M_init_45 : decode c_M_init 45 = .ok (.bipush 120, 2) := by decide +kernel
theorem d_M_init_47 : decode c_M_init 47 = .ok (.newarray .int, 2) := by decide +kernel
theorem d_M_init_49 : decode c_M_init 49 = .ok (.putfield 25, 3) := by decide +kernel
theorem d_M_init_52 : decode c_M_init 52 = .ok (.aload_n 0, 1) := by decide +kernel
theorem d_M_init_53 : decode c_M_init 53 = .ok (.bipush 40, 2) := by decide +kernel
theorem d_M_init_55 : decode c_M_init 55 = .ok (.newarray .int, 2) := by decide +kernel
theorem d_M_init_57 : decode c_M_init 57 = .ok (.putfield 28, 3) := by decide +kernel
theorem d_M_init_60 : decode c_M_init 60 = .ok (.aload_n 0, 1) := by decide +kernel
theorem d_M_init_61 : decode c_M_init 61 = .ok (.bipush 110, 2) := by decide +kernel
theorem d_M_init_63 : decode c_M_init 63 = .ok (.putfield 31, 3) := by decide +kernel
theorem d_M_init_66 : decode c_M_init 66 = .ok (.aload_n 0, 1) := by decide +kernel
theorem d_M_init_67 : decode c_M_init 67 = .ok (.bipush 20, 2) := by decide +kernel
theorem d_M_init_69 : decode c_M_init 69 = .ok (.putfield 35, 3) := by decide +kernel
theorem d_M_init_72 : decode c_M_init 72 = .ok (.aload_n 0, 1) := by decide +kernel
theorem d_M_init_73 : decode c_M_init 73 = .ok (.bipush 25, 2) := by decide +kernel
theorem d_M_init_75 : decode c_M_init 75 = .ok (.putfield 38, 3) := by decide +kernel
theorem d_M_init_78 : decode c_M_init 78 = .ok (.aload_n 0, 1) := by decide +kernel
theorem d_M_init_79 : decode c_M_init 79 = .ok (.sipush 450, 3) := by decide +kernel
theorem d_M_init_82 : decode c_M_init 82 = .ok (.putfield 41, 3) := by decide +kernel
theorem d_M_init_85 : decode c_M_init 85 = .ok (.return_, 1) := by decide +kernel
theorem d_M_within_0 : decode c_M_within 0 = .ok (.iload_n 0, 1) := by decide +kernel
theorem d_M_within_1 : decode c_M_within 1 = .ok (.iload_n 1, 1) := by decide +kernel
theorem d_M_within_2 : decode c_M_within 2 = .ok (.if_icmp .lt 12, 3) := by decide +kernel
theorem d_M_within_5 : decode c_M_within 5 = .ok (.iload_n 0, 1) := by decide +kernel
theorem d_M_within_6 : decode c_M_within 6 = .ok (.iload_n 2, 1) := by decide +kernel
theorem d_M_within_7 : decode c_M_within 7 = .ok (.if_icmp .gt 7, 3) := by decide +kernel
theorem d_M_within_10 : decode c_M_within 10 = .ok (.iconst 1, 1) := by decide +kernel
theorem d_M_within_11 : decode c_M_within 11 = .ok (.goto 4, 3) := by decide +kernel
theorem d_M_within_14 : decode c_M_within 14 = .ok (.iconst 0, 1) := by decide +kernel
theorem d_M_within_15 : decode c_M_within 15 = .ok (.ireturn, 1) := by decide +kernel
theorem d_M_isStation_0 : decode c_M_isStation 0 = .ok (.iload_n 1, 1) := by decide +kernel
theorem d_M_isStation_1 : decode c_M_isStation 1 = .ok (.ifCond .lt 15, 3) := by decide +kernel
theorem d_M_isStation_4 : decode c_M_isStation 4 = .ok (.iload_n 1, 1) := by decide +kernel
theorem d_M_isStation_5 : decode c_M_isStation 5 = .ok (.aload_n 0, 1) := by decide +kernel
theorem d_M_isStation_6 : decode c_M_isStation 6 = .ok (.getfield 44, 3) := by decide +kernel
theorem d_M_isStation_9 : decode c_M_isStation 9 = .ok (.if_icmp .ge 7, 3) := by decide +kernel
theorem d_M_isStation_12 : decode c_M_isStation 12 = .ok (.iconst 1, 1) := by decide +kernel
theorem d_M_isStation_13 : decode c_M_isStation 13 = .ok (.goto 4, 3) := by decide +kernel
theorem d_M_isStation_16 : decode c_M_isStation 16 = .ok (.iconst 0, 1) := by decide +kernel
theorem d_M_isStation_17 : decode c_M_isStation 17 = .ok (.ireturn, 1) := by decide +kernel
theorem d_M_root_0 : decode c_M_root 0 = .ok (.lconst 0, 1) := by decide +kernel
theorem d_M_root_1 : decode c_M_root 1 = .ok (.lstore_n 2, 1) := by decide +kernel
theorem d_M_root_2 : decode c_M_root 2 = .ok (.ldc2_w 47, 3) := by decide +kernel
theorem d_M_root_5 : decode c_M_root 5 = .ok (.lstore 4, 2) := by decide +kernel
theorem d_M_root_7 : decode c_M_root 7 = .ok (.lload 4, 2) := by decide +kernel
theorem d_M_root_9 : decode c_M_root 9 = .ok (.lload_n 2, 1) := by decide +kernel
theorem d_M_root_10 : decode c_M_root 10 = .ok (.lsub, 1) := by decide +kernel
theorem d_M_root_11 : decode c_M_root 11 = .ok (.lconst 1, 1) := by decide +kernel
theorem d_M_root_12 : decode c_M_root 12 = .ok (.lcmp, 1) := by decide +kernel
theorem d_M_root_13 : decode c_M_root 13 = .ok (.ifCond .le 59, 3) := by decide +kernel
theorem d_M_root_16 : decode c_M_root 16 = .ok (.lload_n 2, 1) := by decide +kernel
theorem d_M_root_17 : decode c_M_root 17 = .ok (.lload 4, 2) := by decide +kernel
theorem d_M_root_19 : decode c_M_root 19 = .ok (.ladd, 1) := by decide +kernel
theorem d_M_root_20 : decode c_M_root 20 = .ok (.ldc2_w 49, 3) := by decide +kernel
theorem d_M_root_23 : decode c_M_root 23 = .ok (.ldiv, 1) := by decide +kernel
theorem d_M_root_24 : decode c_M_root 24 = .ok (.lstore 6, 2) := by decide +kernel
theorem d_M_root_26 : decode c_M_root 26 = .ok (.lload 6, 2) := by decide +kernel
theorem d_M_root_28 : decode c_M_root 28 = .ok (.lload 6, 2) := by decide +kernel
theorem d_M_root_30 : decode c_M_root 30 = .ok (.lmul, 1) := by decide +kernel
theorem d_M_root_31 : decode c_M_root 31 = .ok (.lload_n 0, 1) := by decide +kernel
theorem d_M_root_32 : decode c_M_root 32 = .ok (.lcmp, 1) := by decide +kernel
theorem d_M_root_33 : decode c_M_root 33 = .ok (.ifCond .gt 7, 3) := by decide +kernel
theorem d_M_root_36 : decode c_M_root 36 = .ok (.iconst 1, 1) := by decide +kernel
theorem d_M_root_37 : decode c_M_root 37 = .ok (.goto 4, 3) := by decide +kernel
theorem d_M_root_40 : decode c_M_root 40 = .ok (.iconst 0, 1) := by decide +kernel
theorem d_M_root_41 : decode c_M_root 41 = .ok (.istore 8, 2) := by decide +kernel
theorem d_M_root_43 : decode c_M_root 43 = .ok (.iload 8, 2) := by decide +kernel
theorem d_M_root_45 : decode c_M_root 45 = .ok (.ifCond .eq 8, 3) := by decide +kernel
theorem d_M_root_48 : decode c_M_root 48 = .ok (.lload 6, 2) := by decide +kernel
theorem d_M_root_50 : decode c_M_root 50 = .ok (.goto 4, 3) := by decide +kernel
theorem d_M_root_53 : decode c_M_root 53 = .ok (.lload_n 2, 1) := by decide +kernel
theorem d_M_root_54 : decode c_M_root 54 = .ok (.lstore_n 2, 1) := by decide +kernel
theorem d_M_root_55 : decode c_M_root 55 = .ok (.iload 8, 2) := by decide +kernel
theorem d_M_root_57 : decode c_M_root 57 = .ok (.ifCond .eq 8, 3) := by decide +kernel
theorem d_M_root_60 : decode c_M_root 60 = .ok (.lload 4, 2) := by decide +kernel
theorem d_M_root_62 : decode c_M_root 62 = .ok (.goto 5, 3) := by decide +kernel
theorem d_M_root_65 : decode c_M_root 65 = .ok (.lload 6, 2) := by decide +kernel
theorem d_M_root_67 : decode c_M_root 67 = .ok (.lstore 4, 2) := by decide +kernel
theorem d_M_root_69 : decode c_M_root 69 = .ok (.goto (-62), 3) := by decide +kernel
theorem d_M_root_72 : decode c_M_root 72 = .ok (.lload_n 2, 1) := by decide +kernel
theorem d_M_root_73 : decode c_M_root 73 = .ok (.l2i, 1) := by decide +kernel
theorem d_M_root_74 : decode c_M_root 74 = .ok (.ireturn, 1) := by decide +kernel
theorem d_M_square_0 : decode c_M_square 0 = .ok (.lload_n 0, 1) := by decide +kernel
theorem d_M_square_1 : decode c_M_square 1 = .ok (.lload_n 0, 1) := by decide +kernel
theorem d_M_square_2 : decode c_M_square 2 = .ok (.lmul, 1) := by decide +kernel
theorem d_M_square_3 : decode c_M_square 3 = .ok (.lreturn, 1) := by decide +kernel
theorem d_M_isPoint_0 : decode c_M_isPoint 0 = .ok (.iload_n 0, 1) := by decide +kernel
theorem d_M_isPoint_1 : decode c_M_isPoint 1 = .ok (.sipush (-15000), 3) := by decide +kernel
theorem d_M_isPoint_4 : decode c_M_isPoint 4 = .ok (.sipush 15000, 3) := by decide +kernel
theorem d_M_isPoint_7 : decode c_M_isPoint 7 = .ok (.invokestatic 51, 3) := by decide +kernel
theorem d_M_isPoint_10 : decode c_M_isPoint 10 = .ok (.ifCond .eq 20, 3) := by decide +kernel
theorem d_M_isPoint_13 : decode c_M_isPoint 13 = .ok (.iload_n 1, 1) := by decide +kernel
theorem d_M_isPoint_14 : decode c_M_isPoint 14 = .ok (.sipush (-15000), 3) := by decide +kernel
theorem d_M_isPoint_17 : decode c_M_isPoint 17 = .ok (.sipush 15000, 3) := by decide +kernel
theorem d_M_isPoint_20 : decode c_M_isPoint 20 = .ok (.invokestatic 51, 3) := by decide +kernel
theorem d_M_isPoint_23 : decode c_M_isPoint 23 = .ok (.ifCond .eq 7, 3) := by decide +kernel
theorem d_M_isPoint_26 : decode c_M_isPoint 26 = .ok (.iconst 1, 1) := by decide +kernel
theorem d_M_isPoint_27 : decode c_M_isPoint 27 = .ok (.goto 4, 3) := by decide +kernel
theorem d_M_isPoint_30 : decode c_M_isPoint 30 = .ok (.iconst 0, 1) := by decide +kernel
theorem d_M_isPoint_31 : decode c_M_isPoint 31 = .ok (.ireturn, 1) := by decide +kernel
theorem d_M_station_0 : decode c_M_station 0 = .ok (.iload_n 1, 1) := by decide +kernel
theorem d_M_station_1 : decode c_M_station 1 = .ok (.iload_n 2, 1) := by decide +kernel
theorem d_M_station_2 : decode c_M_station 2 = .ok (.invokestatic 55, 3) := by decide +kernel
theorem d_M_station_5 : decode c_M_station 5 = .ok (.ifCond .eq 23, 3) := by decide +kernel
theorem d_M_station_8 : decode c_M_station 8 = .ok (.iload_n 3, 1) := by decide +kernel
theorem d_M_station_9 : decode c_M_station 9 = .ok (.ldc 59, 2) := by decide +kernel
theorem d_M_station_11 : decode c_M_station 11 = .ok (.ldc 60, 2) := by decide +kernel
theorem d_M_station_13 : decode c_M_station 13 = .ok (.invokestatic 51, 3) := by decide +kernel
theorem d_M_station_16 : decode c_M_station 16 = .ok (.ifCond .eq 12, 3) := by decide +kernel
theorem d_M_station_19 : decode c_M_station 19 = .ok (.aload_n 0, 1) := by decide +kernel
theorem d_M_station_20 : decode c_M_station 20 = .ok (.getfield 44, 3) := by decide +kernel
theorem d_M_station_23 : decode c_M_station 23 = .ok (.bipush 60, 2) := by decide +kernel
theorem d_M_station_25 : decode c_M_station 25 = .ok (.if_icmp .ne 5, 3) := by decide +kernel
theorem d_M_station_28 : decode c_M_station 28 = .ok (.iconst (-1), 1) := by decide +kernel
theorem d_M_station_29 : decode c_M_station 29 = .ok (.ireturn, 1) := by decide +kernel
theorem d_M_station_30 : decode c_M_station 30 = .ok (.aload_n 0, 1) := by decide +kernel
theorem d_M_station_31 : decode c_M_station 31 = .ok (.getfield 44, 3) := by decide +kernel
theorem d_M_station_34 : decode c_M_station 34 = .ok (.istore 4, 2) := by decide +kernel
theorem d_M_station_36 : decode c_M_station 36 = .ok (.aload_n 0, 1) := by decide +kernel
theorem d_M_station_37 : decode c_M_station 37 = .ok (.getfield 7, 3) := by decide +kernel
theorem d_M_station_40 : decode c_M_station 40 = .ok (.iload 4, 2) := by decide +kernel
theorem d_M_station_42 : decode c_M_station 42 = .ok (.iload_n 1, 1) := by decide +kernel
theorem d_M_station_43 : decode c_M_station 43 = .ok (.iastore, 1) := by decide +kernel
theorem d_M_station_44 : decode c_M_station 44 = .ok (.aload_n 0, 1) := by decide +kernel
theorem d_M_station_45 : decode c_M_station 45 = .ok (.getfield 13, 3) := by decide +kernel
theorem d_M_station_48 : decode c_M_station 48 = .ok (.iload 4, 2) := by decide +kernel
theorem d_M_station_50 : decode c_M_station 50 = .ok (.iload_n 2, 1) := by decide +kernel
theorem d_M_station_51 : decode c_M_station 51 = .ok (.iastore, 1) := by decide +kernel
theorem d_M_station_52 : decode c_M_station 52 = .ok (.aload_n 0, 1) := by decide +kernel
theorem d_M_station_53 : decode c_M_station 53 = .ok (.getfield 16, 3) := by decide +kernel
theorem d_M_station_56 : decode c_M_station 56 = .ok (.iload 4, 2) := by decide +kernel
theorem d_M_station_58 : decode c_M_station 58 = .ok (.iload_n 3, 1) := by decide +kernel
theorem d_M_station_59 : decode c_M_station 59 = .ok (.iastore, 1) := by decide +kernel
theorem d_M_station_60 : decode c_M_station 60 = .ok (.aload_n 0, 1) := by decide +kernel
theorem d_M_station_61 : decode c_M_station 61 = .ok (.getfield 22, 3) := by decide +kernel
theorem d_M_station_64 : decode c_M_station 64 = .ok (.iload 4, 2) := by decide +kernel
theorem d_M_station_66 : decode c_M_station 66 = .ok (.bipush 50, 2) := by decide +kernel
theorem d_M_station_68 : decode c_M_station 68 = .ok (.iastore, 1) := by decide +kernel
theorem d_M_station_69 : decode c_M_station 69 = .ok (.aload_n 0, 1) := by decide +kernel
theorem d_M_station_70 : decode c_M_station 70 = .ok (.getfield 25, 3) := by decide +kernel
theorem d_M_station_73 : decode c_M_station 73 = .ok (.iconst 2, 1) := by decide +kernel
theorem d_M_station_74 : decode c_M_station 74 = .ok (.iload 4, 2) := by decide +kernel
theorem d_M_station_76 : decode c_M_station 76 = .ok (.imul, 1) := by decide +kernel
theorem d_M_station_77 : decode c_M_station 77 = .ok (.iconst (-1), 1) := by decide +kernel
theorem d_M_station_78 : decode c_M_station 78 = .ok (.iastore, 1) := by decide +kernel
theorem d_M_station_79 : decode c_M_station 79 = .ok (.aload_n 0, 1) := by decide +kernel
theorem d_M_station_80 : decode c_M_station 80 = .ok (.getfield 25, 3) := by decide +kernel
theorem d_M_station_83 : decode c_M_station 83 = .ok (.iconst 2, 1) := by decide +kernel
theorem d_M_station_84 : decode c_M_station 84 = .ok (.iload 4, 2) := by decide +kernel
theorem d_M_station_86 : decode c_M_station 86 = .ok (.imul, 1) := by decide +kernel
theorem d_M_station_87 : decode c_M_station 87 = .ok (.iconst 1, 1) := by decide +kernel
theorem d_M_station_88 : decode c_M_station 88 = .ok (.iadd, 1) := by decide +kernel
theorem d_M_station_89 : decode c_M_station 89 = .ok (.iconst (-1), 1) := by decide +kernel
theorem d_M_station_90 : decode c_M_station 90 = .ok (.iastore, 1) := by decide +kernel
theorem d_M_station_91 : decode c_M_station 91 = .ok (.iload 4, 2) := by decide +kernel
theorem d_M_station_93 : decode c_M_station 93 = .ok (.ifCond .le 68, 3) := by decide +kernel
theorem d_M_station_96 : decode c_M_station 96 = .ok (.iload_n 1, 1) := by decide +kernel
theorem d_M_station_97 : decode c_M_station 97 = .ok (.aload_n 0, 1) := by decide +kernel
theorem d_M_station_98 : decode c_M_station 98 = .ok (.getfield 7, 3) := by decide +kernel
theorem d_M_station_101 : decode c_M_station 101 = .ok (.iload 4, 2) := by decide +kernel
theorem d_M_station_103 : decode c_M_station 103 = .ok (.iconst 1, 1) := by decide +kernel
theorem d_M_station_104 : decode c_M_station 104 = .ok (.isub, 1) := by decide +kernel
theorem d_M_station_105 : decode c_M_station 105 = .ok (.iaload, 1) := by decide +kernel
theorem d_M_station_106 : decode c_M_station 106 = .ok (.isub, 1) := by decide +kernel
theorem d_M_station_107 : decode c_M_station 107 = .ok (.i2l, 1) := by decide +kernel
theorem d_M_station_108 : decode c_M_station 108 = .ok (.invokestatic 61, 3) := by decide +kernel
theorem d_M_station_111 : decode c_M_station 111 = .ok (.iload_n 2, 1) := by decide +kernel
theorem d_M_station_112 : decode c_M_station 112 = .ok (.aload_n 0, 1) := by decide +kernel
theorem d_M_station_113 : decode c_M_station 113 = .ok (.getfield 13, 3) := by decide +kernel
theorem d_M_station_116 : decode c_M_station 116 = .ok (.iload 4, 2) := by decide +kernel
theorem d_M_station_118 : decode c_M_station 118 = .ok (.iconst 1, 1) := by decide +kernel
theorem d_M_station_119 : decode c_M_station 119 = .ok (.isub, 1) := by decide +kernel
theorem d_M_station_120 : decode c_M_station 120 = .ok (.iaload, 1) := by decide +kernel
theorem d_M_station_121 : decode c_M_station 121 = .ok (.isub, 1) := by decide +kernel
theorem d_M_station_122 : decode c_M_station 122 = .ok (.i2l, 1) := by decide +kernel
theorem d_M_station_123 : decode c_M_station 123 = .ok (.invokestatic 61, 3) := by decide +kernel
theorem d_M_station_126 : decode c_M_station 126 = .ok (.ladd, 1) := by decide +kernel
theorem d_M_station_127 : decode c_M_station 127 = .ok (.invokestatic 65, 3) := by decide +kernel
theorem d_M_station_130 : decode c_M_station 130 = .ok (.istore 5, 2) := by decide +kernel
theorem d_M_station_132 : decode c_M_station 132 = .ok (.aload_n 0, 1) := by decide +kernel
theorem d_M_station_133 : decode c_M_station 133 = .ok (.getfield 19, 3) := by decide +kernel
theorem d_M_station_136 : decode c_M_station 136 = .ok (.iload 4, 2) := by decide +kernel
theorem d_M_station_138 : decode c_M_station 138 = .ok (.aload_n 0, 1) := by decide +kernel
theorem d_M_station_139 : decode c_M_station 139 = .ok (.getfield 19, 3) := by decide +kernel
theorem d_M_station_142 : decode c_M_station 142 = .ok (.iload 4, 2) := by decide +kernel
theorem d_M_station_144 : decode c_M_station 144 = .ok (.iconst 1, 1) := by decide +kernel
theorem d_M_station_145 : decode c_M_station 145 = .ok (.isub, 1) := by decide +kernel
theorem d_M_station_146 : decode c_M_station 146 = .ok (.iaload, 1) := by decide +kernel
theorem d_M_station_147 : decode c_M_station 147 = .ok (.iload 5, 2) := by decide +kernel
theorem d_M_station_149 : decode c_M_station 149 = .ok (.iconst 1, 1) := by decide +kernel
theorem d_M_station_150 : decode c_M_station 150 = .ok (.if_icmp .ge 7, 3) := by decide +kernel
theorem d_M_station_153 : decode c_M_station 153 = .ok (.iconst 1, 1) := by decide +kernel
theorem d_M_station_154 : decode c_M_station 154 = .ok (.goto 5, 3) := by decide +kernel
theorem d_M_station_157 : decode c_M_station 157 = .ok (.iload 5, 2) := by decide +kernel
theorem d_M_station_159 : decode c_M_station 159 = .ok (.iadd, 1) := by decide +kernel
theorem d_M_station_160 : decode c_M_station 160 = .ok (.iastore, 1) := by decide +kernel
theorem d_M_station_161 : decode c_M_station 161 = .ok (.aload_n 0, 1) := by decide +kernel
theorem d_M_station_162 : decode c_M_station 162 = .ok (.dup, 1) := by decide +kernel
theorem d_M_station_163 : decode c_M_station 163 = .ok (.getfield 44, 3) := by decide +kernel
theorem d_M_station_166 : decode c_M_station 166 = .ok (.iconst 1, 1) := by decide +kernel
theorem d_M_station_167 : decode c_M_station 167 = .ok (.iadd, 1) := by decide +kernel
theorem d_M_station_168 : decode c_M_station 168 = .ok (.putfield 44, 3) := by decide +kernel
theorem d_M_station_171 : decode c_M_station 171 = .ok (.iload 4, 2) := by decide +kernel
theorem d_M_station_173 : decode c_M_station 173 = .ok (.ireturn, 1) := by decide +kernel
theorem d_M_heights_0 : decode c_M_heights 0 = .ok (.iload_n 1, 1) := by decide +kernel
theorem d_M_heights_1 : decode c_M_heights 1 = .ok (.iconst 0, 1) := by decide +kernel
theorem d_M_heights_2 : decode c_M_heights 2 = .ok (.sipush 1000, 3) := by decide +kernel
theorem d_M_heights_5 : decode c_M_heights 5 = .ok (.invokestatic 51, 3) := by decide +kernel
theorem d_M_heights_8 : decode c_M_heights 8 = .ok (.ifCond .eq 14, 3) := by decide +kernel
theorem d_M_heights_11 : decode c_M_heights 11 = .ok (.iload_n 2, 1) := by decide +kernel
theorem d_M_heights_12 : decode c_M_heights 12 = .ok (.iconst 0, 1) := by decide +kernel
theorem d_M_heights_13 : decode c_M_heights 13 = .ok (.sipush 1000, 3) := by decide +kernel
theorem d_M_heights_16 : decode c_M_heights 16 = .ok (.invokestatic 51, 3) := by decide +kernel
theorem d_M_heights_19 : decode c_M_heights 19 = .ok (.ifCond .ne 5, 3) := by decide +kernel
theorem d_M_heights_22 : decode c_M_heights 22 = .ok (.iconst 0, 1) := by decide +kernel
theorem d_M_heights_23 : decode c_M_heights 23 = .ok (.ireturn, 1) := by decide +kernel
theorem d_M_heights_24 : decode c_M_heights 24 = .ok (.aload_n 0, 1) := by decide +kernel
theorem d_M_heights_25 : decode c_M_heights 25 = .ok (.iload_n 1, 1) := by decide +kernel
theorem d_M_heights_26 : decode c_M_heights 26 = .ok (.putfield 31, 3) := by decide +kernel
theorem d_M_heights_29 : decode c_M_heights 29 = .ok (.aload_n 0, 1) := by decide +kernel
theorem d_M_heights_30 : decode c_M_heights 30 = .ok (.iload_n 2, 1) := by decide +kernel
theorem d_M_heights_31 : decode c_M_heights 31 = .ok (.putfield 35, 3) := by decide +kernel
theorem d_M_heights_34 : decode c_M_heights 34 = .ok (.iconst 1, 1) := by decide +kernel
theorem d_M_heights_35 : decode c_M_heights 35 = .ok (.ireturn, 1) := by decide +kernel
theorem d_M_clear_0 : decode c_M_clear 0 = .ok (.aload_n 0, 1) := by decide +kernel
theorem d_M_clear_1 : decode c_M_clear 1 = .ok (.iload_n 1, 1) := by decide +kernel
theorem d_M_clear_2 : decode c_M_clear 2 = .ok (.invokevirtual 69, 3) := by decide +kernel
theorem d_M_clear_5 : decode c_M_clear 5 = .ok (.ifCond .eq 23, 3) := by decide +kernel
theorem d_M_clear_8 : decode c_M_clear 8 = .ok (.iload_n 2, 1) := by decide +kernel
theorem d_M_clear_9 : decode c_M_clear 9 = .ok (.iconst 0, 1) := by decide +kernel
theorem d_M_clear_10 : decode c_M_clear 10 = .ok (.iconst 1, 1) := by decide +kernel
theorem d_M_clear_11 : decode c_M_clear 11 = .ok (.invokestatic 51, 3) := by decide +kernel
theorem d_M_clear_14 : decode c_M_clear 14 = .ok (.ifCond .eq 14, 3) := by decide +kernel
theorem d_M_clear_17 : decode c_M_clear 17 = .ok (.iload_n 3, 1) := by decide +kernel
theorem d_M_clear_18 : decode c_M_clear 18 = .ok (.iconst 0, 1) := by decide +kernel
theorem d_M_clear_19 : decode c_M_clear 19 = .ok (.sipush 1000, 3) := by decide +kernel
theorem d_M_clear_22 : decode c_M_clear 22 = .ok (.invokestatic 51, 3) := by decide +kernel
theorem d_M_clear_25 : decode c_M_clear 25 = .ok (.ifCond .ne 5, 3) := by decide +kernel
theorem d_M_clear_28 : decode c_M_clear 28 = .ok (.iconst 0, 1) := by decide +kernel
theorem d_M_clear_29 : decode c_M_clear 29 = .ok (.ireturn, 1) := by decide +kernel
theorem d_M_clear_30 : decode c_M_clear 30 = .ok (.aload_n 0, 1) := by decide +kernel
theorem d_M_clear_31 : decode c_M_clear 31 = .ok (.getfield 25, 3) := by decide +kernel
theorem d_M_clear_34 : decode c_M_clear 34 = .ok (.iconst 2, 1) := by decide +kernel
theorem d_M_clear_35 : decode c_M_clear 35 = .ok (.iload_n 1, 1) := by decide +kernel
theorem d_M_clear_36 : decode c_M_clear 36 = .ok (.imul, 1) := by decide +kernel
theorem d_M_clear_37 : decode c_M_clear 37 = .ok (.iload_n 2, 1) := by decide +kernel
theorem d_M_clear_38 : decode c_M_clear 38 = .ok (.iadd, 1) := by decide +kernel
theorem d_M_clear_39 : decode c_M_clear 39 = .ok (.iload_n 3, 1) := by decide +kernel
theorem d_M_clear_40 : decode c_M_clear 40 = .ok (.iastore, 1) := by decide +kernel
theorem d_M_clear_41 : decode c_M_clear 41 = .ok (.iconst 1, 1) := by decide +kernel
theorem d_M_clear_42 : decode c_M_clear 42 = .ok (.ireturn, 1) := by decide +kernel
theorem d_M_box_0 : decode c_M_box 0 = .ok (.iload_n 1, 1) := by decide +kernel
theorem d_M_box_1 : decode c_M_box 1 = .ok (.iload_n 2, 1) := by decide +kernel
theorem d_M_box_2 : decode c_M_box 2 = .ok (.invokestatic 55, 3) := by decide +kernel
theorem d_M_box_5 : decode c_M_box 5 = .ok (.ifCond .eq 44, 3) := by decide +kernel
theorem d_M_box_8 : decode c_M_box 8 = .ok (.iload_n 3, 1) := by decide +kernel
theorem d_M_box_9 : decode c_M_box 9 = .ok (.iload 4, 2) := by decide +kernel
theorem d_M_box_11 : decode c_M_box 11 = .ok (.invokestatic 55, 3) := by decide +kernel
theorem d_M_box_14 : decode c_M_box 14 = .ok (.ifCond .eq 35, 3) := by decide +kernel
theorem d_M_box_17 : decode c_M_box 17 = .ok (.iload_n 1, 1) := by decide +kernel
theorem d_M_box_18 : decode c_M_box 18 = .ok (.iload_n 3, 1) := by decide +kernel
theorem d_M_box_19 : decode c_M_box 19 = .ok (.if_icmp .gt 30, 3) := by decide +kernel
theorem d_M_box_22 : decode c_M_box 22 = .ok (.iload_n 2, 1) := by decide +kernel
theorem d_M_box_23 : decode c_M_box 23 = .ok (.iload 4, 2) := by decide +kernel
theorem d_M_box_25 : decode c_M_box 25 = .ok (.if_icmp .gt 24, 3) := by decide +kernel
theorem d_M_box_28 : decode c_M_box 28 = .ok (.iload 5, 2) := by decide +kernel
theorem d_M_box_30 : decode c_M_box 30 = .ok (.ldc 59, 2) := by decide +kernel
theorem d_M_box_32 : decode c_M_box 32 = .ok (.ldc 60, 2) := by decide +kernel
theorem d_M_box_34 : decode c_M_box 34 = .ok (.invokestatic 51, 3) := by decide +kernel
theorem d_M_box_37 : decode c_M_box 37 = .ok (.ifCond .eq 12, 3) := by decide +kernel
theorem d_M_box_40 : decode c_M_box 40 = .ok (.aload_n 0, 1) := by decide +kernel
theorem d_M_box_41 : decode c_M_box 41 = .ok (.getfield 73, 3) := by decide +kernel
theorem d_M_box_44 : decode c_M_box 44 = .ok (.bipush 8, 2) := by decide +kernel
theorem d_M_box_46 : decode c_M_box 46 = .ok (.if_icmp .ne 5, 3) := by decide +kernel
theorem d_M_box_49 : decode c_M_box 49 = .ok (.iconst (-1), 1) := by decide +kernel
theorem d_M_box_50 : decode c_M_box 50 = .ok (.ireturn, 1) := by decide +kernel
theorem d_M_box_51 : decode c_M_box 51 = .ok (.aload_n 0, 1) := by decide +kernel
theorem d_M_box_52 : decode c_M_box 52 = .ok (.getfield 28, 3) := by decide +kernel
theorem d_M_box_55 : decode c_M_box 55 = .ok (.iconst 5, 1) := by decide +kernel
theorem d_M_box_56 : decode c_M_box 56 = .ok (.aload_n 0, 1) := by decide +kernel
theorem d_M_box_57 : decode c_M_box 57 = .ok (.getfield 73, 3) := by decide +kernel
theorem d_M_box_60 : decode c_M_box 60 = .ok (.imul, 1) := by decide +kernel
theorem d_M_box_61 : decode c_M_box 61 = .ok (.iload_n 1, 1) := by decide +kernel
theorem d_M_box_62 : decode c_M_box 62 = .ok (.iastore, 1) := by decide +kernel
theorem d_M_box_63 : decode c_M_box 63 = .ok (.aload_n 0, 1) := by decide +kernel
theorem d_M_box_64 : decode c_M_box 64 = .ok (.getfield 28, 3) := by decide +kernel
theorem d_M_box_67 : decode c_M_box 67 = .ok (.iconst 5, 1) := by decide +kernel
theorem d_M_box_68 : decode c_M_box 68 = .ok (.aload_n 0, 1) := by decide +kernel
theorem d_M_box_69 : decode c_M_box 69 = .ok (.getfield 73, 3) := by decide +kernel
theorem d_M_box_72 : decode c_M_box 72 = .ok (.imul, 1) := by decide +kernel
theorem d_M_box_73 : decode c_M_box 73 = .ok (.iconst 1, 1) := by decide +kernel
theorem d_M_box_74 : decode c_M_box 74 = .ok (.iadd, 1) := by decide +kernel
theorem d_M_box_75 : decode c_M_box 75 = .ok (.iload_n 2, 1) := by decide +kernel
theorem d_M_box_76 : decode c_M_box 76 = .ok (.iastore, 1) := by decide +kernel
theorem d_M_box_77 : decode c_M_box 77 = .ok (.aload_n 0, 1) := by decide +kernel
theorem d_M_box_78 : decode c_M_box 78 = .ok (.getfield 28, 3) := by decide +kernel
theorem d_M_box_81 : decode c_M_box 81 = .ok (.iconst 5, 1) := by decide +kernel
theorem d_M_box_82 : decode c_M_box 82 = .ok (.aload_n 0, 1) := by decide +kernel
theorem d_M_box_83 : decode c_M_box 83 = .ok (.getfield 73, 3) := by decide +kernel
theorem d_M_box_86 : decode c_M_box 86 = .ok (.imul, 1) := by decide +kernel
theorem d_M_box_87 : decode c_M_box 87 = .ok (.iconst 2, 1) := by decide +kernel
theorem d_M_box_88 : decode c_M_box 88 = .ok (.iadd, 1) := by decide +kernel
theorem d_M_box_89 : decode c_M_box 89 = .ok (.iload_n 3, 1) := by decide +kernel
theorem d_M_box_90 : decode c_M_box 90 = .ok (.iastore, 1) := by decide +kernel
theorem d_M_box_91 : decode c_M_box 91 = .ok (.aload_n 0, 1) := by decide +kernel
theorem d_M_box_92 : decode c_M_box 92 = .ok (.getfield 28, 3) := by decide +kernel
theorem d_M_box_95 : decode c_M_box 95 = .ok (.iconst 5, 1) := by decide +kernel
theorem d_M_box_96 : decode c_M_box 96 = .ok (.aload_n 0, 1) := by decide +kernel
theorem d_M_box_97 : decode c_M_box 97 = .ok (.getfield 73, 3) := by decide +kernel
theorem d_M_box_100 : decode c_M_box 100 = .ok (.imul, 1) := by decide +kernel
theorem d_M_box_101 : decode c_M_box 101 = .ok (.iconst 3, 1) := by decide +kernel
theorem d_M_box_102 : decode c_M_box 102 = .ok (.iadd, 1) := by decide +kernel
theorem d_M_box_103 : decode c_M_box 103 = .ok (.iload 4, 2) := by decide +kernel
theorem d_M_box_105 : decode c_M_box 105 = .ok (.iastore, 1) := by decide +kernel
theorem d_M_box_106 : decode c_M_box 106 = .ok (.aload_n 0, 1) := by decide +kernel
theorem d_M_box_107 : decode c_M_box 107 = .ok (.getfield 28, 3) := by decide +kernel
theorem d_M_box_110 : decode c_M_box 110 = .ok (.iconst 5, 1) := by decide +kernel
theorem d_M_box_111 : decode c_M_box 111 = .ok (.aload_n 0, 1) := by decide +kernel
theorem d_M_box_112 : decode c_M_box 112 = .ok (.getfield 73, 3) := by decide +kernel
theorem d_M_box_115 : decode c_M_box 115 = .ok (.imul, 1) := by decide +kernel
theorem d_M_box_116 : decode c_M_box 116 = .ok (.iconst 4, 1) := by decide +kernel
theorem d_M_box_117 : decode c_M_box 117 = .ok (.iadd, 1) := by decide +kernel
theorem d_M_box_118 : decode c_M_box 118 = .ok (.iload 5, 2) := by decide +kernel
theorem d_M_box_120 : decode c_M_box 120 = .ok (.iastore, 1) := by decide +kernel
theorem d_M_box_121 : decode c_M_box 121 = .ok (.aload_n 0, 1) := by decide +kernel
theorem d_M_box_122 : decode c_M_box 122 = .ok (.dup, 1) := by decide +kernel
theorem d_M_box_123 : decode c_M_box 123 = .ok (.getfield 73, 3) := by decide +kernel
theorem d_M_box_126 : decode c_M_box 126 = .ok (.iconst 1, 1) := by decide +kernel
theorem d_M_box_127 : decode c_M_box 127 = .ok (.iadd, 1) := by decide +kernel
theorem d_M_box_128 : decode c_M_box 128 = .ok (.putfield 73, 3) := by decide +kernel
theorem d_M_box_131 : decode c_M_box 131 = .ok (.aload_n 0, 1) := by decide +kernel
theorem d_M_box_132 : decode c_M_box 132 = .ok (.getfield 73, 3) := by decide +kernel
theorem d_M_box_135 : decode c_M_box 135 = .ok (.iconst 1, 1) := by decide +kernel
theorem d_M_box_136 : decode c_M_box 136 = .ok (.isub, 1) := by decide +kernel
theorem d_M_box_137 : decode c_M_box 137 = .ok (.ireturn, 1) := by decide +kernel
theorem d_M_speed_0 : decode c_M_speed 0 = .ok (.aload_n 0, 1) := by decide +kernel
theorem d_M_speed_1 : decode c_M_speed 1 = .ok (.iload_n 1, 1) := by decide +kernel
theorem d_M_speed_2 : decode c_M_speed 2 = .ok (.invokevirtual 69, 3) := by decide +kernel
theorem d_M_speed_5 : decode c_M_speed 5 = .ok (.ifCond .eq 14, 3) := by decide +kernel
theorem d_M_speed_8 : decode c_M_speed 8 = .ok (.iload_n 2, 1) := by decide +kernel
theorem d_M_speed_9 : decode c_M_speed 9 = .ok (.iconst 0, 1) := by decide +kernel
theorem d_M_speed_10 : decode c_M_speed 10 = .ok (.sipush 200, 3) := by decide +kernel
theorem d_M_speed_13 : decode c_M_speed 13 = .ok (.invokestatic 51, 3) := by decide +kernel
theorem d_M_speed_16 : decode c_M_speed 16 = .ok (.ifCond .ne 5, 3) := by decide +kernel
theorem d_M_speed_19 : decode c_M_speed 19 = .ok (.iconst 0, 1) := by decide +kernel
theorem d_M_speed_20 : decode c_M_speed 20 = .ok (.ireturn, 1) := by decide +kernel
theorem d_M_speed_21 : decode c_M_speed 21 = .ok (.aload_n 0, 1) := by decide +kernel
theorem d_M_speed_22 : decode c_M_speed 22 = .ok (.getfield 22, 3) := by decide +kernel
theorem d_M_speed_25 : decode c_M_speed 25 = .ok (.iload_n 1, 1) := by decide +kernel
theorem d_M_speed_26 : decode c_M_speed 26 = .ok (.iload_n 2, 1) := by decide +kernel
theorem d_M_speed_27 : decode c_M_speed 27 = .ok (.iastore, 1) := by decide +kernel
theorem d_M_speed_28 : decode c_M_speed 28 = .ok (.iconst 1, 1) := by decide +kernel
theorem d_M_speed_29 : decode c_M_speed 29 = .ok (.ireturn, 1) := by decide +kernel
theorem d_M_brake_0 : decode c_M_brake 0 = .ok (.iload_n 1, 1) := by decide +kernel
theorem d_M_brake_1 : decode c_M_brake 1 = .ok (.iconst 0, 1) := by decide +kernel
theorem d_M_brake_2 : decode c_M_brake 2 = .ok (.bipush 100, 2) := by decide +kernel
theorem d_M_brake_4 : decode c_M_brake 4 = .ok (.invokestatic 51, 3) := by decide +kernel
theorem d_M_brake_7 : decode c_M_brake 7 = .ok (.ifCond .eq 15, 3) := by decide +kernel
theorem d_M_brake_10 : decode c_M_brake 10 = .ok (.iload_n 2, 1) := by decide +kernel
theorem d_M_brake_11 : decode c_M_brake 11 = .ok (.bipush 50, 2) := by decide +kernel
theorem d_M_brake_13 : decode c_M_brake 13 = .ok (.sipush 1000, 3) := by decide +kernel
theorem d_M_brake_16 : decode c_M_brake 16 = .ok (.invokestatic 51, 3) := by decide +kernel
theorem d_M_brake_19 : decode c_M_brake 19 = .ok (.ifCond .ne 5, 3) := by decide +kernel
theorem d_M_brake_22 : decode c_M_brake 22 = .ok (.iconst 0, 1) := by decide +kernel
theorem d_M_brake_23 : decode c_M_brake 23 = .ok (.ireturn, 1) := by decide +kernel
theorem d_M_brake_24 : decode c_M_brake 24 = .ok (.aload_n 0, 1) := by decide +kernel
theorem d_M_brake_25 : decode c_M_brake 25 = .ok (.iload_n 1, 1) := by decide +kernel
theorem d_M_brake_26 : decode c_M_brake 26 = .ok (.putfield 38, 3) := by decide +kernel
theorem d_M_brake_29 : decode c_M_brake 29 = .ok (.aload_n 0, 1) := by decide +kernel
theorem d_M_brake_30 : decode c_M_brake 30 = .ok (.iload_n 2, 1) := by decide +kernel
theorem d_M_brake_31 : decode c_M_brake 31 = .ok (.putfield 41, 3) := by decide +kernel
theorem d_M_brake_34 : decode c_M_brake 34 = .ok (.iconst 1, 1) := by decide +kernel
theorem d_M_brake_35 : decode c_M_brake 35 = .ok (.ireturn, 1) := by decide +kernel
theorem d_M_way_0 : decode c_M_way 0 = .ok (.aload_n 0, 1) := by decide +kernel
theorem d_M_way_1 : decode c_M_way 1 = .ok (.iload_n 1, 1) := by decide +kernel
theorem d_M_way_2 : decode c_M_way 2 = .ok (.invokevirtual 69, 3) := by decide +kernel
theorem d_M_way_5 : decode c_M_way 5 = .ok (.ifCond .eq 12, 3) := by decide +kernel
theorem d_M_way_8 : decode c_M_way 8 = .ok (.aload_n 0, 1) := by decide +kernel
theorem d_M_way_9 : decode c_M_way 9 = .ok (.getfield 19, 3) := by decide +kernel
theorem d_M_way_12 : decode c_M_way 12 = .ok (.iload_n 1, 1) := by decide +kernel
theorem d_M_way_13 : decode c_M_way 13 = .ok (.iaload, 1) := by decide +kernel
theorem d_M_way_14 : decode c_M_way 14 = .ok (.goto 4, 3) := by decide +kernel
theorem d_M_way_17 : decode c_M_way 17 = .ok (.iconst (-1), 1) := by decide +kernel
theorem d_M_way_18 : decode c_M_way 18 = .ok (.ireturn, 1) := by decide +kernel
theorem d_M_isAbove_0 : decode c_M_isAbove 0 = .ok (.aload_n 0, 1) := by decide +kernel
theorem d_M_isAbove_1 : decode c_M_isAbove 1 = .ok (.getfield 19, 3) := by decide +kernel
theorem d_M_isAbove_4 : decode c_M_isAbove 4 = .ok (.iload_n 2, 1) := by decide +kernel
theorem d_M_isAbove_5 : decode c_M_isAbove 5 = .ok (.iaload, 1) := by decide +kernel
theorem d_M_isAbove_6 : decode c_M_isAbove 6 = .ok (.aload_n 0, 1) := by decide +kernel
theorem d_M_isAbove_7 : decode c_M_isAbove 7 = .ok (.getfield 19, 3) := by decide +kernel
theorem d_M_isAbove_10 : decode c_M_isAbove 10 = .ok (.iload_n 1, 1) := by decide +kernel
theorem d_M_isAbove_11 : decode c_M_isAbove 11 = .ok (.iaload, 1) := by decide +kernel
theorem d_M_isAbove_12 : decode c_M_isAbove 12 = .ok (.isub, 1) := by decide +kernel
theorem d_M_isAbove_13 : decode c_M_isAbove 13 = .ok (.i2l, 1) := by decide +kernel
theorem d_M_isAbove_14 : decode c_M_isAbove 14 = .ok (.lstore 4, 2) := by decide +kernel
theorem d_M_isAbove_16 : decode c_M_isAbove 16 = .ok (.aload_n 0, 1) := by decide +kernel
theorem d_M_isAbove_17 : decode c_M_isAbove 17 = .ok (.getfield 19, 3) := by decide +kernel
theorem d_M_isAbove_20 : decode c_M_isAbove 20 = .ok (.iload_n 3, 1) := by decide +kernel
theorem d_M_isAbove_21 : decode c_M_isAbove 21 = .ok (.iaload, 1) := by decide +kernel
theorem d_M_isAbove_22 : decode c_M_isAbove 22 = .ok (.aload_n 0, 1) := by decide +kernel
theorem d_M_isAbove_23 : decode c_M_isAbove 23 = .ok (.getfield 19, 3) := by decide +kernel
theorem d_M_isAbove_26 : decode c_M_isAbove 26 = .ok (.iload_n 1, 1) := by decide +kernel
theorem d_M_isAbove_27 : decode c_M_isAbove 27 = .ok (.iaload, 1) := by decide +kernel
theorem d_M_isAbove_28 : decode c_M_isAbove 28 = .ok (.isub, 1) := by decide +kernel
theorem d_M_isAbove_29 : decode c_M_isAbove 29 = .ok (.i2l, 1) := by decide +kernel
theorem d_M_isAbove_30 : decode c_M_isAbove 30 = .ok (.lstore 6, 2) := by decide +kernel
theorem d_M_isAbove_32 : decode c_M_isAbove 32 = .ok (.lload 4, 2) := by decide +kernel
theorem d_M_isAbove_34 : decode c_M_isAbove 34 = .ok (.lconst 0, 1) := by decide +kernel
theorem d_M_isAbove_35 : decode c_M_isAbove 35 = .ok (.lcmp, 1) := by decide +kernel
theorem d_M_isAbove_36 : decode c_M_isAbove 36 = .ok (.ifCond .ge 13, 3) := by decide +kernel
theorem d_M_isAbove_39 : decode c_M_isAbove 39 = .ok (.lload 4, 2) := by decide +kernel
theorem d_M_isAbove_41 : decode c_M_isAbove 41 = .ok (.lneg, 1) := by decide +kernel
theorem d_M_isAbove_42 : decode c_M_isAbove 42 = .ok (.lstore 4, 2) := by decide +kernel
theorem d_M_isAbove_44 : decode c_M_isAbove 44 = .ok (.lload 6, 2) := by decide +kernel
theorem d_M_isAbove_46 : decode c_M_isAbove 46 = .ok (.lneg, 1) := by decide +kernel
theorem d_M_isAbove_47 : decode c_M_isAbove 47 = .ok (.lstore 6, 2) := by decide +kernel
theorem d_M_isAbove_49 : decode c_M_isAbove 49 = .ok (.aload_n 0, 1) := by decide +kernel
theorem d_M_isAbove_50 : decode c_M_isAbove 50 = .ok (.getfield 16, 3) := by decide +kernel
theorem d_M_isAbove_53 : decode c_M_isAbove 53 = .ok (.iload_n 3, 1) := by decide +kernel
theorem d_M_isAbove_54 : decode c_M_isAbove 54 = .ok (.iaload, 1) := by decide +kernel
theorem d_M_isAbove_55 : decode c_M_isAbove 55 = .ok (.i2l, 1) := by decide +kernel
theorem d_M_isAbove_56 : decode c_M_isAbove 56 = .ok (.lload 4, 2) := by decide +kernel
theorem d_M_isAbove_58 : decode c_M_isAbove 58 = .ok (.lmul, 1) := by decide +kernel
theorem d_M_isAbove_59 : decode c_M_isAbove 59 = .ok (.lload 4, 2) := by decide +kernel
theorem d_M_isAbove_61 : decode c_M_isAbove 61 = .ok (.lload 6, 2) := by decide +kernel
theorem d_M_isAbove_63 : decode c_M_isAbove 63 = .ok (.lsub, 1) := by decide +kernel
theorem d_M_isAbove_64 : decode c_M_isAbove 64 = .ok (.aload_n 0, 1) := by decide +kernel
theorem d_M_isAbove_65 : decode c_M_isAbove 65 = .ok (.getfield 16, 3) := by decide +kernel
theorem d_M_isAbove_68 : decode c_M_isAbove 68 = .ok (.iload_n 1, 1) := by decide +kernel
theorem d_M_isAbove_69 : decode c_M_isAbove 69 = .ok (.iaload, 1) := by decide +kernel
theorem d_M_isAbove_70 : decode c_M_isAbove 70 = .ok (.aload_n 0, 1) := by decide +kernel
theorem d_M_isAbove_71 : decode c_M_isAbove 71 = .ok (.getfield 31, 3) := by decide +kernel
theorem d_M_isAbove_74 : decode c_M_isAbove 74 = .ok (.iadd, 1) := by decide +kernel
theorem d_M_isAbove_75 : decode c_M_isAbove 75 = .ok (.i2l, 1) := by decide +kernel
theorem d_M_isAbove_76 : decode c_M_isAbove 76 = .ok (.lmul, 1) := by decide +kernel
theorem d_M_isAbove_77 : decode c_M_isAbove 77 = .ok (.lload 6, 2) := by decide +kernel
theorem d_M_isAbove_79 : decode c_M_isAbove 79 = .ok (.aload_n 0, 1) := by decide +kernel
theorem d_M_isAbove_80 : decode c_M_isAbove 80 = .ok (.getfield 16, 3) := by decide +kernel
theorem d_M_isAbove_83 : decode c_M_isAbove 83 = .ok (.iload_n 2, 1) := by decide +kernel
theorem d_M_isAbove_84 : decode c_M_isAbove 84 = .ok (.iaload, 1) := by decide +kernel
theorem d_M_isAbove_85 : decode c_M_isAbove 85 = .ok (.aload_n 0, 1) := by decide +kernel
theorem d_M_isAbove_86 : decode c_M_isAbove 86 = .ok (.getfield 35, 3) := by decide +kernel
theorem d_M_isAbove_89 : decode c_M_isAbove 89 = .ok (.iadd, 1) := by decide +kernel
theorem d_M_isAbove_90 : decode c_M_isAbove 90 = .ok (.i2l, 1) := by decide +kernel
theorem d_M_isAbove_91 : decode c_M_isAbove 91 = .ok (.lmul, 1) := by decide +kernel
theorem d_M_isAbove_92 : decode c_M_isAbove 92 = .ok (.ladd, 1) := by decide +kernel
theorem d_M_isAbove_93 : decode c_M_isAbove 93 = .ok (.lcmp, 1) := by decide +kernel
theorem d_M_isAbove_94 : decode c_M_isAbove 94 = .ok (.ifCond .le 7, 3) := by decide +kernel
theorem d_M_isAbove_97 : decode c_M_isAbove 97 = .ok (.iconst 1, 1) := by decide +kernel
theorem d_M_isAbove_98 : decode c_M_isAbove 98 = .ok (.goto 4, 3) := by decide +kernel
theorem d_M_isAbove_101 : decode c_M_isAbove 101 = .ok (.iconst 0, 1) := by decide +kernel
theorem d_M_isAbove_102 : decode c_M_isAbove 102 = .ok (.ireturn, 1) := by decide +kernel
theorem d_M_beside_0 : decode c_M_beside 0 = .ok (.aload_n 0, 1) := by decide +kernel
theorem d_M_beside_1 : decode c_M_beside 1 = .ok (.getfield 7, 3) := by decide +kernel
theorem d_M_beside_4 : decode c_M_beside 4 = .ok (.iload_n 2, 1) := by decide +kernel
theorem d_M_beside_5 : decode c_M_beside 5 = .ok (.iaload, 1) := by decide +kernel
theorem d_M_beside_6 : decode c_M_beside 6 = .ok (.aload_n 0, 1) := by decide +kernel
theorem d_M_beside_7 : decode c_M_beside 7 = .ok (.getfield 7, 3) := by decide +kernel
theorem d_M_beside_10 : decode c_M_beside 10 = .ok (.iload_n 1, 1) := by decide +kernel
theorem d_M_beside_11 : decode c_M_beside 11 = .ok (.iaload, 1) := by decide +kernel
theorem d_M_beside_12 : decode c_M_beside 12 = .ok (.isub, 1) := by decide +kernel
theorem d_M_beside_13 : decode c_M_beside 13 = .ok (.i2l, 1) := by decide +kernel
theorem d_M_beside_14 : decode c_M_beside 14 = .ok (.lstore 4, 2) := by decide +kernel
theorem d_M_beside_16 : decode c_M_beside 16 = .ok (.aload_n 0, 1) := by decide +kernel
theorem d_M_beside_17 : decode c_M_beside 17 = .ok (.getfield 13, 3) := by decide +kernel
theorem d_M_beside_20 : decode c_M_beside 20 = .ok (.iload_n 2, 1) := by decide +kernel
theorem d_M_beside_21 : decode c_M_beside 21 = .ok (.iaload, 1) := by decide +kernel
theorem d_M_beside_22 : decode c_M_beside 22 = .ok (.aload_n 0, 1) := by decide +kernel
theorem d_M_beside_23 : decode c_M_beside 23 = .ok (.getfield 13, 3) := by decide +kernel
theorem d_M_beside_26 : decode c_M_beside 26 = .ok (.iload_n 1, 1) := by decide +kernel
theorem d_M_beside_27 : decode c_M_beside 27 = .ok (.iaload, 1) := by decide +kernel
theorem d_M_beside_28 : decode c_M_beside 28 = .ok (.isub, 1) := by decide +kernel
theorem d_M_beside_29 : decode c_M_beside 29 = .ok (.i2l, 1) := by decide +kernel
theorem d_M_beside_30 : decode c_M_beside 30 = .ok (.lstore 6, 2) := by decide +kernel
theorem d_M_beside_32 : decode c_M_beside 32 = .ok (.lload 4, 2) := by decide +kernel
theorem d_M_beside_34 : decode c_M_beside 34 = .ok (.aload_n 0, 1) := by decide +kernel
theorem d_M_beside_35 : decode c_M_beside 35 = .ok (.getfield 13, 3) := by decide +kernel
theorem d_M_beside_38 : decode c_M_beside 38 = .ok (.iload_n 3, 1) := by decide +kernel
theorem d_M_beside_39 : decode c_M_beside 39 = .ok (.iaload, 1) := by decide +kernel
theorem d_M_beside_40 : decode c_M_beside 40 = .ok (.aload_n 0, 1) := by decide +kernel
theorem d_M_beside_41 : decode c_M_beside 41 = .ok (.getfield 13, 3) := by decide +kernel
theorem d_M_beside_44 : decode c_M_beside 44 = .ok (.iload_n 1, 1) := by decide +kernel
theorem d_M_beside_45 : decode c_M_beside 45 = .ok (.iaload, 1) := by decide +kernel
theorem d_M_beside_46 : decode c_M_beside 46 = .ok (.isub, 1) := by decide +kernel
theorem d_M_beside_47 : decode c_M_beside 47 = .ok (.i2l, 1) := by decide +kernel
theorem d_M_beside_48 : decode c_M_beside 48 = .ok (.lmul, 1) := by decide +kernel
theorem d_M_beside_49 : decode c_M_beside 49 = .ok (.lload 6, 2) := by decide +kernel
theorem d_M_beside_51 : decode c_M_beside 51 = .ok (.aload_n 0, 1) := by decide +kernel
theorem d_M_beside_52 : decode c_M_beside 52 = .ok (.getfield 7, 3) := by decide +kernel
theorem d_M_beside_55 : decode c_M_beside 55 = .ok (.iload_n 3, 1) := by decide +kernel
theorem d_M_beside_56 : decode c_M_beside 56 = .ok (.iaload, 1) := by decide +kernel
theorem d_M_beside_57 : decode c_M_beside 57 = .ok (.aload_n 0, 1) := by decide +kernel
theorem d_M_beside_58 : decode c_M_beside 58 = .ok (.getfield 7, 3) := by decide +kernel
theorem d_M_beside_61 : decode c_M_beside 61 = .ok (.iload_n 1, 1) := by decide +kernel
theorem d_M_beside_62 : decode c_M_beside 62 = .ok (.iaload, 1) := by decide +kernel
theorem d_M_beside_63 : decode c_M_beside 63 = .ok (.isub, 1) := by decide +kernel
theorem d_M_beside_64 : decode c_M_beside 64 = .ok (.i2l, 1) := by decide +kernel
theorem d_M_beside_65 : decode c_M_beside 65 = .ok (.lmul, 1) := by decide +kernel
theorem d_M_beside_66 : decode c_M_beside 66 = .ok (.lsub, 1) := by decide +kernel
theorem d_M_beside_67 : decode c_M_beside 67 = .ok (.lreturn, 1) := by decide +kernel
theorem d_M_lengthSquare_0 : decode c_M_lengthSquare 0 = .ok (.aload_n 0, 1) := by decide +kernel
theorem d_M_lengthSquare_1 : decode c_M_lengthSquare 1 = .ok (.getfield 7, 3) := by decide +kernel
theorem d_M_lengthSquare_4 : decode c_M_lengthSquare 4 = .ok (.iload_n 2, 1) := by decide +kernel
theorem d_M_lengthSquare_5 : decode c_M_lengthSquare 5 = .ok (.iaload, 1) := by decide +kernel
theorem d_M_lengthSquare_6 : decode c_M_lengthSquare 6 = .ok (.aload_n 0, 1) := by decide +kernel
theorem d_M_lengthSquare_7 : decode c_M_lengthSquare 7 = .ok (.getfield 7, 3) := by decide +kernel
theorem d_M_lengthSquare_10 : decode c_M_lengthSquare 10 = .ok (.iload_n 1, 1) := by decide +kernel
theorem d_M_lengthSquare_11 : decode c_M_lengthSquare 11 = .ok (.iaload, 1) := by decide +kernel
theorem d_M_lengthSquare_12 : decode c_M_lengthSquare 12 = .ok (.isub, 1) := by decide +kernel
theorem d_M_lengthSquare_13 : decode c_M_lengthSquare 13 = .ok (.i2l, 1) := by decide +kernel
theorem d_M_lengthSquare_14 : decode c_M_lengthSquare 14 = .ok (.invokestatic 61, 3) := by decide +kernel
theorem d_M_lengthSquare_17 : decode c_M_lengthSquare 17 = .ok (.aload_n 0, 1) := by decide +kernel
theorem d_M_lengthSquare_18 : decode c_M_lengthSquare 18 = .ok (.getfield 13, 3) := by decide +kernel
theorem d_M_lengthSquare_21 : decode c_M_lengthSquare 21 = .ok (.iload_n 2, 1) := by decide +kernel
theorem d_M_lengthSquare_22 : decode c_M_lengthSquare 22 = .ok (.iaload, 1) := by decide +kernel
theorem d_M_lengthSquare_23 : decode c_M_lengthSquare 23 = .ok (.aload_n 0, 1) := by decide +kernel
theorem d_M_lengthSquare_24 : decode c_M_lengthSquare 24 = .ok (.getfield 13, 3) := by decide +kernel
theorem d_M_lengthSquare_27 : decode c_M_lengthSquare 27 = .ok (.iload_n 1, 1) := by decide +kernel
theorem d_M_lengthSquare_28 : decode c_M_lengthSquare 28 = .ok (.iaload, 1) := by decide +kernel
theorem d_M_lengthSquare_29 : decode c_M_lengthSquare 29 = .ok (.isub, 1) := by decide +kernel
theorem d_M_lengthSquare_30 : decode c_M_lengthSquare 30 = .ok (.i2l, 1) := by decide +kernel
theorem d_M_lengthSquare_31 : decode c_M_lengthSquare 31 = .ok (.invokestatic 61, 3) := by decide +kernel
theorem d_M_lengthSquare_34 : decode c_M_lengthSquare 34 = .ok (.ladd, 1) := by decide +kernel
theorem d_M_lengthSquare_35 : decode c_M_lengthSquare 35 = .ok (.lreturn, 1) := by decide +kernel
theorem d_M_isBanked_0 : decode c_M_isBanked 0 = .ok (.iload_n 1, 1) := by decide +kernel
theorem d_M_isBanked_1 : decode c_M_isBanked 1 = .ok (.iload_n 2, 1) := by decide +kernel
theorem d_M_isBanked_2 : decode c_M_isBanked 2 = .ok (.if_icmp .ge 7, 3) := by decide +kernel
theorem d_M_isBanked_5 : decode c_M_isBanked 5 = .ok (.iload_n 1, 1) := by decide +kernel
theorem d_M_isBanked_6 : decode c_M_isBanked 6 = .ok (.goto 4, 3) := by decide +kernel
theorem d_M_isBanked_9 : decode c_M_isBanked 9 = .ok (.iload_n 2, 1) := by decide +kernel
theorem d_M_isBanked_10 : decode c_M_isBanked 10 = .ok (.istore 4, 2) := by decide +kernel
theorem d_M_isBanked_12 : decode c_M_isBanked 12 = .ok (.iload_n 1, 1) := by decide +kernel
theorem d_M_isBanked_13 : decode c_M_isBanked 13 = .ok (.iload_n 2, 1) := by decide +kernel
theorem d_M_isBanked_14 : decode c_M_isBanked 14 = .ok (.if_icmp .ge 7, 3) := by decide +kernel
theorem d_M_isBanked_17 : decode c_M_isBanked 17 = .ok (.iload_n 2, 1) := by decide +kernel
theorem d_M_isBanked_18 : decode c_M_isBanked 18 = .ok (.goto 4, 3) := by decide +kernel
theorem d_M_isBanked_21 : decode c_M_isBanked 21 = .ok (.iload_n 1, 1) := by decide +kernel
theorem d_M_isBanked_22 : decode c_M_isBanked 22 = .ok (.istore 5, 2) := by decide +kernel
theorem d_M_isBanked_24 : decode c_M_isBanked 24 = .ok (.aload_n 0, 1) := by decide +kernel
theorem d_M_isBanked_25 : decode c_M_isBanked 25 = .ok (.iload 4, 2) := by decide +kernel
theorem d_M_isBanked_27 : decode c_M_isBanked 27 = .ok (.iload 5, 2) := by decide +kernel
theorem d_M_isBanked_29 : decode c_M_isBanked 29 = .ok (.iload_n 3, 1) := by decide +kernel
theorem d_M_isBanked_30 : decode c_M_isBanked 30 = .ok (.invokevirtual 76, 3) := by decide +kernel
theorem d_M_isBanked_33 : decode c_M_isBanked 33 = .ok (.lstore 6, 2) := by decide +kernel
theorem d_M_isBanked_35 : decode c_M_isBanked 35 = .ok (.aload_n 0, 1) := by decide +kernel
theorem d_M_isBanked_36 : decode c_M_isBanked 36 = .ok (.getfield 25, 3) := by decide +kernel
theorem d_M_isBanked_39 : decode c_M_isBanked 39 = .ok (.iconst 2, 1) := by decide +kernel
theorem d_M_isBanked_40 : decode c_M_isBanked 40 = .ok (.iload_n 3, 1) := by decide +kernel
theorem d_M_isBanked_41 : decode c_M_isBanked 41 = .ok (.imul, 1) := by decide +kernel
theorem d_M_isBanked_42 : decode c_M_isBanked 42 = .ok (.lload 6, 2) := by decide +kernel
theorem d_M_isBanked_44 : decode c_M_isBanked 44 = .ok (.lconst 0, 1) := by decide +kernel
theorem d_M_isBanked_45 : decode c_M_isBanked 45 = .ok (.lcmp, 1) := by decide +kernel
theorem d_M_isBanked_46 : decode c_M_isBanked 46 = .ok (.ifCond .le 7, 3) := by decide +kernel
theorem d_M_isBanked_49 : decode c_M_isBanked 49 = .ok (.iconst 1, 1) := by decide +kernel
theorem d_M_isBanked_50 : decode c_M_isBanked 50 = .ok (.goto 4, 3) := by decide +kernel
theorem d_M_isBanked_53 : decode c_M_isBanked 53 = .ok (.iconst 0, 1) := by decide +kernel
theorem d_M_isBanked_54 : decode c_M_isBanked 54 = .ok (.iadd, 1) := by decide +kernel
theorem d_M_isBanked_55 : decode c_M_isBanked 55 = .ok (.iaload, 1) := by decide +kernel
theorem d_M_isBanked_56 : decode c_M_isBanked 56 = .ok (.istore 8, 2) := by decide +kernel
theorem d_M_isBanked_58 : decode c_M_isBanked 58 = .ok (.lload 6, 2) := by decide +kernel
theorem d_M_isBanked_60 : decode c_M_isBanked 60 = .ok (.lconst 0, 1) := by decide +kernel
theorem d_M_isBanked_61 : decode c_M_isBanked 61 = .ok (.lcmp, 1) := by decide +kernel
theorem d_M_isBanked_62 : decode c_M_isBanked 62 = .ok (.ifCond .eq 36, 3) := by decide +kernel
theorem d_M_isBanked_65 : decode c_M_isBanked 65 = .ok (.iload 8, 2) := by decide +kernel
theorem d_M_isBanked_67 : decode c_M_isBanked 67 = .ok (.ifCond .lt 31, 3) := by decide +kernel
theorem d_M_isBanked_70 : decode c_M_isBanked 70 = .ok (.lload 6, 2) := by decide +kernel
theorem d_M_isBanked_72 : decode c_M_isBanked 72 = .ok (.invokestatic 61, 3) := by decide +kernel
theorem d_M_isBanked_75 : decode c_M_isBanked 75 = .ok (.iload 8, 2) := by decide +kernel
theorem d_M_isBanked_77 : decode c_M_isBanked 77 = .ok (.i2l, 1) := by decide +kernel
theorem d_M_isBanked_78 : decode c_M_isBanked 78 = .ok (.invokestatic 61, 3) := by decide +kernel
theorem d_M_isBanked_81 : decode c_M_isBanked 81 = .ok (.aload_n 0, 1) := by decide +kernel
theorem d_M_isBanked_82 : decode c_M_isBanked 82 = .ok (.iload 4, 2) := by decide +kernel
theorem d_M_isBanked_84 : decode c_M_isBanked 84 = .ok (.iload 5, 2) := by decide +kernel
theorem d_M_isBanked_86 : decode c_M_isBanked 86 = .ok (.invokevirtual 80, 3) := by decide +kernel
theorem d_M_isBanked_89 : decode c_M_isBanked 89 = .ok (.lmul, 1) := by decide +kernel
theorem d_M_isBanked_90 : decode c_M_isBanked 90 = .ok (.lcmp, 1) := by decide +kernel
theorem d_M_isBanked_91 : decode c_M_isBanked 91 = .ok (.ifCond .le 7, 3) := by decide +kernel
theorem d_M_isBanked_94 : decode c_M_isBanked 94 = .ok (.iconst 1, 1) := by decide +kernel
theorem d_M_isBanked_95 : decode c_M_isBanked 95 = .ok (.goto 4, 3) := by decide +kernel
theorem d_M_isBanked_98 : decode c_M_isBanked 98 = .ok (.iconst 0, 1) := by decide +kernel
theorem d_M_isBanked_99 : decode c_M_isBanked 99 = .ok (.ireturn, 1) := by decide +kernel
theorem d_M_cut_0 : decode c_M_cut 0 = .ok (.iload_n 2, 1) := by decide +kernel
theorem d_M_cut_1 : decode c_M_cut 1 = .ok (.iload_n 1, 1) := by decide +kernel
theorem d_M_cut_2 : decode c_M_cut 2 = .ok (.isub, 1) := by decide +kernel
theorem d_M_cut_3 : decode c_M_cut 3 = .ok (.i2l, 1) := by decide +kernel
theorem d_M_cut_4 : decode c_M_cut 4 = .ok (.lstore 5, 2) := by decide +kernel
theorem d_M_cut_6 : decode c_M_cut 6 = .ok (.lload 5, 2) := by decide +kernel
theorem d_M_cut_8 : decode c_M_cut 8 = .ok (.lconst 0, 1) := by decide +kernel
theorem d_M_cut_9 : decode c_M_cut 9 = .ok (.lcmp, 1) := by decide +kernel
theorem d_M_cut_10 : decode c_M_cut 10 = .ok (.ifCond .ne 20, 3) := by decide +kernel
theorem d_M_cut_13 : decode c_M_cut 13 = .ok (.iload_n 1, 1) := by decide +kernel
theorem d_M_cut_14 : decode c_M_cut 14 = .ok (.iload_n 3, 1) := by decide +kernel
theorem d_M_cut_15 : decode c_M_cut 15 = .ok (.if_icmp .lt 13, 3) := by decide +kernel
theorem d_M_cut_18 : decode c_M_cut 18 = .ok (.iload_n 1, 1) := by decide +kernel
theorem d_M_cut_19 : decode c_M_cut 19 = .ok (.iload 4, 2) := by decide +kernel
theorem d_M_cut_21 : decode c_M_cut 21 = .ok (.if_icmp .gt 7, 3) := by decide +kernel
theorem d_M_cut_24 : decode c_M_cut 24 = .ok (.iconst 1, 1) := by decide +kernel
theorem d_M_cut_25 : decode c_M_cut 25 = .ok (.goto 4, 3) := by decide +kernel
theorem d_M_cut_28 : decode c_M_cut 28 = .ok (.iconst 0, 1) := by decide +kernel
theorem d_M_cut_29 : decode c_M_cut 29 = .ok (.ireturn, 1) := by decide +kernel
theorem d_M_cut_30 : decode c_M_cut 30 = .ok (.lload 5, 2) := by decide +kernel
theorem d_M_cut_32 : decode c_M_cut 32 = .ok (.lconst 0, 1) := by decide +kernel
theorem d_M_cut_33 : decode c_M_cut 33 = .ok (.lcmp, 1) := by decide +kernel
theorem d_M_cut_34 : decode c_M_cut 34 = .ok (.ifCond .le 10, 3) := by decide +kernel
theorem d_M_cut_37 : decode c_M_cut 37 = .ok (.iload_n 3, 1) := by decide +kernel
theorem d_M_cut_38 : decode c_M_cut 38 = .ok (.iload_n 1, 1) := by decide +kernel
theorem d_M_cut_39 : decode c_M_cut 39 = .ok (.isub, 1) := by decide +kernel
theorem d_M_cut_40 : decode c_M_cut 40 = .ok (.i2l, 1) := by decide +kernel
theorem d_M_cut_41 : decode c_M_cut 41 = .ok (.goto 8, 3) := by decide +kernel
theorem d_M_cut_44 : decode c_M_cut 44 = .ok (.iload_n 1, 1) := by decide +kernel
theorem d_M_cut_45 : decode c_M_cut 45 = .ok (.iload 4, 2) := by decide +kernel
theorem d_M_cut_47 : decode c_M_cut 47 = .ok (.isub, 1) := by decide +kernel
theorem d_M_cut_48 : decode c_M_cut 48 = .ok (.i2l, 1) := by decide +kernel
theorem d_M_cut_49 : decode c_M_cut 49 = .ok (.lstore 7, 2) := by decide +kernel
theorem d_M_cut_51 : decode c_M_cut 51 = .ok (.lload 5, 2) := by decide +kernel
theorem d_M_cut_53 : decode c_M_cut 53 = .ok (.lconst 0, 1) := by decide +kernel
theorem d_M_cut_54 : decode c_M_cut 54 = .ok (.lcmp, 1) := by decide +kernel
theorem d_M_cut_55 : decode c_M_cut 55 = .ok (.ifCond .le 11, 3) := by decide +kernel
theorem d_M_cut_58 : decode c_M_cut 58 = .ok (.iload 4, 2) := by decide +kernel
theorem d_M_cut_60 : decode c_M_cut 60 = .ok (.iload_n 1, 1) := by decide +kernel
theorem d_M_cut_61 : decode c_M_cut 61 = .ok (.isub, 1) := by decide +kernel
theorem d_M_cut_62 : decode c_M_cut 62 = .ok (.i2l, 1) := by decide +kernel
theorem d_M_cut_63 : decode c_M_cut 63 = .ok (.goto 7, 3) := by decide +kernel
theorem d_M_cut_66 : decode c_M_cut 66 = .ok (.iload_n 1, 1) := by decide +kernel
theorem d_M_cut_67 : decode c_M_cut 67 = .ok (.iload_n 3, 1) := by decide +kernel
theorem d_M_cut_68 : decode c_M_cut 68 = .ok (.isub, 1) := by decide +kernel
theorem d_M_cut_69 : decode c_M_cut 69 = .ok (.i2l, 1) := by decide +kernel
theorem d_M_cut_70 : decode c_M_cut 70 = .ok (.lstore 9, 2) := by decide +kernel
theorem d_M_cut_72 : decode c_M_cut 72 = .ok (.lload 5, 2) := by decide +kernel
theorem d_M_cut_74 : decode c_M_cut 74 = .ok (.lconst 0, 1) := by decide +kernel
theorem d_M_cut_75 : decode c_M_cut 75 = .ok (.lcmp, 1) := by decide +kernel
theorem d_M_cut_76 : decode c_M_cut 76 = .ok (.ifCond .le 8, 3) := by decide +kernel
theorem d_M_cut_79 : decode c_M_cut 79 = .ok (.lload 5, 2) := by decide +kernel
theorem d_M_cut_81 : decode c_M_cut 81 = .ok (.goto 6, 3) := by decide +kernel
theorem d_M_cut_84 : decode c_M_cut 84 = .ok (.lload 5, 2) := by decide +kernel
theorem d_M_cut_86 : decode c_M_cut 86 = .ok (.lneg, 1) := by decide +kernel
theorem d_M_cut_87 : decode c_M_cut 87 = .ok (.lstore 11, 2) := by decide +kernel
theorem d_M_cut_89 : decode c_M_cut 89 = .ok (.lload 7, 2) := by decide +kernel
theorem d_M_cut_91 : decode c_M_cut 91 = .ok (.aload_n 0, 1) := by decide +kernel
theorem d_M_cut_92 : decode c_M_cut 92 = .ok (.getfield 84, 3) := by decide +kernel
theorem d_M_cut_95 : decode c_M_cut 95 = .ok (.lmul, 1) := by decide +kernel
theorem d_M_cut_96 : decode c_M_cut 96 = .ok (.aload_n 0, 1) := by decide +kernel
theorem d_M_cut_97 : decode c_M_cut 97 = .ok (.getfield 88, 3) := by decide +kernel
theorem d_M_cut_100 : decode c_M_cut 100 = .ok (.lload 11, 2) := by decide +kernel
theorem d_M_cut_102 : decode c_M_cut 102 = .ok (.lmul, 1) := by decide +kernel
theorem d_M_cut_103 : decode c_M_cut 103 = .ok (.lcmp, 1) := by decide +kernel
theorem d_M_cut_104 : decode c_M_cut 104 = .ok (.ifCond .le 15, 3) := by decide +kernel
theorem d_M_cut_107 : decode c_M_cut 107 = .ok (.aload_n 0, 1) := by decide +kernel
theorem d_M_cut_108 : decode c_M_cut 108 = .ok (.lload 7, 2) := by decide +kernel
theorem d_M_cut_110 : decode c_M_cut 110 = .ok (.putfield 88, 3) := by decide +kernel
theorem d_M_cut_113 : decode c_M_cut 113 = .ok (.aload_n 0, 1) := by decide +kernel
theorem d_M_cut_114 : decode c_M_cut 114 = .ok (.lload 11, 2) := by decide +kernel
theorem d_M_cut_116 : decode c_M_cut 116 = .ok (.putfield 84, 3) := by decide +kernel
theorem d_M_cut_119 : decode c_M_cut 119 = .ok (.lload 9, 2) := by decide +kernel
theorem d_M_cut_121 : decode c_M_cut 121 = .ok (.aload_n 0, 1) := by decide +kernel
theorem d_M_cut_122 : decode c_M_cut 122 = .ok (.getfield 91, 3) := by decide +kernel
theorem d_M_cut_125 : decode c_M_cut 125 = .ok (.lmul, 1) := by decide +kernel
theorem d_M_cut_126 : decode c_M_cut 126 = .ok (.aload_n 0, 1) := by decide +kernel
theorem d_M_cut_127 : decode c_M_cut 127 = .ok (.getfield 94, 3) := by decide +kernel
theorem d_M_cut_130 : decode c_M_cut 130 = .ok (.lload 11, 2) := by decide +kernel
theorem d_M_cut_132 : decode c_M_cut 132 = .ok (.lmul, 1) := by decide +kernel
theorem d_M_cut_133 : decode c_M_cut 133 = .ok (.lcmp, 1) := by decide +kernel
theorem d_M_cut_134 : decode c_M_cut 134 = .ok (.ifCond .ge 15, 3) := by decide +kernel
theorem d_M_cut_137 : decode c_M_cut 137 = .ok (.aload_n 0, 1) := by decide +kernel
theorem d_M_cut_138 : decode c_M_cut 138 = .ok (.lload 9, 2) := by decide +kernel
theorem d_M_cut_140 : decode c_M_cut 140 = .ok (.putfield 94, 3) := by decide +kernel
theorem d_M_cut_143 : decode c_M_cut 143 = .ok (.aload_n 0, 1) := by decide +kernel
theorem d_M_cut_144 : decode c_M_cut 144 = .ok (.lload 11, 2) := by decide +kernel
theorem d_M_cut_146 : decode c_M_cut 146 = .ok (.putfield 91, 3) := by decide +kernel
theorem d_M_cut_149 : decode c_M_cut 149 = .ok (.aload_n 0, 1) := by decide +kernel
theorem d_M_cut_150 : decode c_M_cut 150 = .ok (.getfield 88, 3) := by decide +kernel
theorem d_M_cut_153 : decode c_M_cut 153 = .ok (.aload_n 0, 1) := by decide +kernel
theorem d_M_cut_154 : decode c_M_cut 154 = .ok (.getfield 91, 3) := by decide +kernel
theorem d_M_cut_157 : decode c_M_cut 157 = .ok (.lmul, 1) := by decide +kernel
theorem d_M_cut_158 : decode c_M_cut 158 = .ok (.aload_n 0, 1) := by decide +kernel
theorem d_M_cut_159 : decode c_M_cut 159 = .ok (.getfield 94, 3) := by decide +kernel
theorem d_M_cut_162 : decode c_M_cut 162 = .ok (.aload_n 0, 1) := by decide +kernel
theorem d_M_cut_163 : decode c_M_cut 163 = .ok (.getfield 84, 3) := by decide +kernel
theorem d_M_cut_166 : decode c_M_cut 166 = .ok (.lmul, 1) := by decide +kernel
theorem d_M_cut_167 : decode c_M_cut 167 = .ok (.lcmp, 1) := by decide +kernel
theorem d_M_cut_168 : decode c_M_cut 168 = .ok (.ifCond .gt 7, 3) := by decide +kernel
theorem d_M_cut_171 : decode c_M_cut 171 = .ok (.iconst 1, 1) := by decide +kernel
theorem d_M_cut_172 : decode c_M_cut 172 = .ok (.goto 4, 3) := by decide +kernel
theorem d_M_cut_175 : decode c_M_cut 175 = .ok (.iconst 0, 1) := by decide +kernel
theorem d_M_cut_176 : decode c_M_cut 176 = .ok (.ireturn, 1) := by decide +kernel
theorem d_M_isBelow_0 : decode c_M_isBelow 0 = .ok (.lload_n 2, 1) := by decide +kernel
theorem d_M_isBelow_1 : decode c_M_isBelow 1 = .ok (.lload_n 0, 1) := by decide +kernel
theorem d_M_isBelow_2 : decode c_M_isBelow 2 = .ok (.lsub, 1) := by decide +kernel
theorem d_M_isBelow_3 : decode c_M_isBelow 3 = .ok (.iload 4, 2) := by decide +kernel
theorem d_M_isBelow_5 : decode c_M_isBelow 5 = .ok (.i2l, 1) := by decide +kernel
theorem d_M_isBelow_6 : decode c_M_isBelow 6 = .ok (.lmul, 1) := by decide +kernel
theorem d_M_isBelow_7 : decode c_M_isBelow 7 = .ok (.lload_n 0, 1) := by decide +kernel
theorem d_M_isBelow_8 : decode c_M_isBelow 8 = .ok (.iload 5, 2) := by decide +kernel
theorem d_M_isBelow_10 : decode c_M_isBelow 10 = .ok (.i2l, 1) := by decide +kernel
theorem d_M_isBelow_11 : decode c_M_isBelow 11 = .ok (.lmul, 1) := by decide +kernel
theorem d_M_isBelow_12 : decode c_M_isBelow 12 = .ok (.ladd, 1) := by decide +kernel
theorem d_M_isBelow_13 : decode c_M_isBelow 13 = .ok (.lload_n 2, 1) := by decide +kernel
theorem d_M_isBelow_14 : decode c_M_isBelow 14 = .ok (.iload 6, 2) := by decide +kernel
theorem d_M_isBelow_16 : decode c_M_isBelow 16 = .ok (.i2l, 1) := by decide +kernel
theorem d_M_isBelow_17 : decode c_M_isBelow 17 = .ok (.lmul, 1) := by decide +kernel
theorem d_M_isBelow_18 : decode c_M_isBelow 18 = .ok (.lcmp, 1) := by decide +kernel
theorem d_M_isBelow_19 : decode c_M_isBelow 19 = .ok (.ifCond .ge 7, 3) := by decide +kernel
theorem d_M_isBelow_22 : decode c_M_isBelow 22 = .ok (.iconst 1, 1) := by decide +kernel
theorem d_M_isBelow_23 : decode c_M_isBelow 23 = .ok (.goto 4, 3) := by decide +kernel
theorem d_M_isBelow_26 : decode c_M_isBelow 26 = .ok (.iconst 0, 1) := by decide +kernel
theorem d_M_isBelow_27 : decode c_M_isBelow 27 = .ok (.ireturn, 1) := by decide +kernel
theorem d_M_isBoxed_0 : decode c_M_isBoxed 0 = .ok (.aload_n 0, 1) := by decide +kernel
theorem d_M_isBoxed_1 : decode c_M_isBoxed 1 = .ok (.lconst 0, 1) := by decide +kernel
theorem d_M_isBoxed_2 : decode c_M_isBoxed 2 = .ok (.putfield 88, 3) := by decide +kernel
theorem d_M_isBoxed_5 : decode c_M_isBoxed 5 = .ok (.aload_n 0, 1) := by decide +kernel
theorem d_M_isBoxed_6 : decode c_M_isBoxed 6 = .ok (.lconst 1, 1) := by decide +kernel
theorem d_M_isBoxed_7 : decode c_M_isBoxed 7 = .ok (.putfield 84, 3) := by decide +kernel
theorem d_M_isBoxed_10 : decode c_M_isBoxed 10 = .ok (.aload_n 0, 1) := by decide +kernel
theorem d_M_isBoxed_11 : decode c_M_isBoxed 11 = .ok (.lconst 1, 1) := by decide +kernel
theorem d_M_isBoxed_12 : decode c_M_isBoxed 12 = .ok (.putfield 94, 3) := by decide +kernel
theorem d_M_isBoxed_15 : decode c_M_isBoxed 15 = .ok (.aload_n 0, 1) := by decide +kernel
theorem d_M_isBoxed_16 : decode c_M_isBoxed 16 = .ok (.lconst 1, 1) := by decide +kernel
theorem d_M_isBoxed_17 : decode c_M_isBoxed 17 = .ok (.putfield 91, 3) := by decide +kernel
theorem d_M_isBoxed_20 : decode c_M_isBoxed 20 = .ok (.iconst 5, 1) := by decide +kernel
theorem d_M_isBoxed_21 : decode c_M_isBoxed 21 = .ok (.iload_n 1, 1) := by decide +kernel
theorem d_M_isBoxed_22 : decode c_M_isBoxed 22 = .ok (.imul, 1) := by decide +kernel
theorem d_M_isBoxed_23 : decode c_M_isBoxed 23 = .ok (.istore 8, 2) := by decide +kernel
theorem d_M_isBoxed_25 : decode c_M_isBoxed 25 = .ok (.aload_n 0, 1) := by decide +kernel
theorem d_M_isBoxed_26 : decode c_M_isBoxed 26 = .ok (.iload_n 2, 1) := by decide +kernel
theorem d_M_isBoxed_27 : decode c_M_isBoxed 27 = .ok (.iload 5, 2) := by decide +kernel
theorem d_M_isBoxed_29 : decode c_M_isBoxed 29 = .ok (.aload_n 0, 1) := by decide +kernel
theorem d_M_isBoxed_30 : decode c_M_isBoxed 30 = .ok (.getfield 28, 3) := by decide +kernel
theorem d_M_isBoxed_33 : decode c_M_isBoxed 33 = .ok (.iload 8, 2) := by decide +kernel
theorem d_M_isBoxed_35 : decode c_M_isBoxed 35 = .ok (.iaload, 1) := by decide +kernel
theorem d_M_isBoxed_36 : decode c_M_isBoxed 36 = .ok (.aload_n 0, 1) := by decide +kernel
theorem d_M_isBoxed_37 : decode c_M_isBoxed 37 = .ok (.getfield 28, 3) := by decide +kernel
theorem d_M_isBoxed_40 : decode c_M_isBoxed 40 = .ok (.iload 8, 2) := by decide +kernel
theorem d_M_isBoxed_42 : decode c_M_isBoxed 42 = .ok (.iconst 2, 1) := by decide +kernel
theorem d_M_isBoxed_43 : decode c_M_isBoxed 43 = .ok (.iadd, 1) := by decide +kernel
theorem d_M_isBoxed_44 : decode c_M_isBoxed 44 = .ok (.iaload, 1) := by decide +kernel
theorem d_M_isBoxed_45 : decode c_M_isBoxed 45 = .ok (.invokevirtual 97, 3) := by decide +kernel
theorem d_M_isBoxed_48 : decode c_M_isBoxed 48 = .ok (.ifCond .eq 31, 3) := by decide +kernel
theorem d_M_isBoxed_51 : decode c_M_isBoxed 51 = .ok (.aload_n 0, 1) := by decide +kernel
theorem d_M_isBoxed_52 : decode c_M_isBoxed 52 = .ok (.iload_n 3, 1) := by decide +kernel
theorem d_M_isBoxed_53 : decode c_M_isBoxed 53 = .ok (.iload 6, 2) := by decide +kernel
theorem d_M_isBoxed_55 : decode c_M_isBoxed 55 = .ok (.aload_n 0, 1) := by decide +kernel
theorem d_M_isBoxed_56 : decode c_M_isBoxed 56 = .ok (.getfield 28, 3) := by decide +kernel
theorem d_M_isBoxed_59 : decode c_M_isBoxed 59 = .ok (.iload 8, 2) := by decide +kernel
theorem d_M_isBoxed_61 : decode c_M_isBoxed 61 = .ok (.iconst 1, 1) := by decide +kernel
theorem d_M_isBoxed_62 : decode c_M_isBoxed 62 = .ok (.iadd, 1) := by decide +kernel
theorem d_M_isBoxed_63 : decode c_M_isBoxed 63 = .ok (.iaload, 1) := by decide +kernel
theorem d_M_isBoxed_64 : decode c_M_isBoxed 64 = .ok (.aload_n 0, 1) := by decide +kernel
theorem d_M_isBoxed_65 : decode c_M_isBoxed 65 = .ok (.getfield 28, 3) := by decide +kernel
theorem d_M_isBoxed_68 : decode c_M_isBoxed 68 = .ok (.iload 8, 2) := by decide +kernel
theorem d_M_isBoxed_70 : decode c_M_isBoxed 70 = .ok (.iconst 3, 1) := by decide +kernel
theorem d_M_isBoxed_71 : decode c_M_isBoxed 71 = .ok (.iadd, 1) := by decide +kernel
theorem d_M_isBoxed_72 : decode c_M_isBoxed 72 = .ok (.iaload, 1) := by decide +kernel
theorem d_M_isBoxed_73 : decode c_M_isBoxed 73 = .ok (.invokevirtual 97, 3) := by decide +kernel
theorem d_M_isBoxed_76 : decode c_M_isBoxed 76 = .ok (.ifCond .ne 5, 3) := by decide +kernel
theorem d_M_isBoxed_79 : decode c_M_isBoxed 79 = .ok (.iconst 0, 1) := by decide +kernel
theorem d_M_isBoxed_80 : decode c_M_isBoxed 80 = .ok (.ireturn, 1) := by decide +kernel
theorem d_M_isBoxed_81 : decode c_M_isBoxed 81 = .ok (.aload_n 0, 1) := by decide +kernel
theorem d_M_isBoxed_82 : decode c_M_isBoxed 82 = .ok (.getfield 88, 3) := by decide +kernel
theorem d_M_isBoxed_85 : decode c_M_isBoxed 85 = .ok (.aload_n 0, 1) := by decide +kernel
theorem d_M_isBoxed_86 : decode c_M_isBoxed 86 = .ok (.getfield 84, 3) := by decide +kernel
theorem d_M_isBoxed_89 : decode c_M_isBoxed 89 = .ok (.iload 4, 2) := by decide +kernel
theorem d_M_isBoxed_91 : decode c_M_isBoxed 91 = .ok (.iload 7, 2) := by decide +kernel
theorem d_M_isBoxed_93 : decode c_M_isBoxed 93 = .ok (.aload_n 0, 1) := by decide +kernel
theorem d_M_isBoxed_94 : decode c_M_isBoxed 94 = .ok (.getfield 28, 3) := by decide +kernel
theorem d_M_isBoxed_97 : decode c_M_isBoxed 97 = .ok (.iload 8, 2) := by decide +kernel
theorem d_M_isBoxed_99 : decode c_M_isBoxed 99 = .ok (.iconst 4, 1) := by decide +kernel
theorem d_M_isBoxed_100 : decode c_M_isBoxed 100 = .ok (.iadd, 1) := by decide +kernel
theorem d_M_isBoxed_101 : decode c_M_isBoxed 101 = .ok (.iaload, 1) := by decide +kernel
theorem d_M_isBoxed_102 : decode c_M_isBoxed 102 = .ok (.invokestatic 101, 3) := by decide +kernel
theorem d_M_isBoxed_105 : decode c_M_isBoxed 105 = .ok (.ifCond .ne 30, 3) := by decide +kernel
theorem d_M_isBoxed_108 : decode c_M_isBoxed 108 = .ok (.aload_n 0, 1) := by decide +kernel
theorem d_M_isBoxed_109 : decode c_M_isBoxed 109 = .ok (.getfield 94, 3) := by decide +kernel
theorem d_M_isBoxed_112 : decode c_M_isBoxed 112 = .ok (.aload_n 0, 1) := by decide +kernel
theorem d_M_isBoxed_113 : decode c_M_isBoxed 113 = .ok (.getfield 91, 3) := by decide +kernel
theorem d_M_isBoxed_116 : decode c_M_isBoxed 116 = .ok (.iload 4, 2) := by decide +kernel
theorem d_M_isBoxed_118 : decode c_M_isBoxed 118 = .ok (.iload 7, 2) := by decide +kernel
theorem d_M_isBoxed_120 : decode c_M_isBoxed 120 = .ok (.aload_n 0, 1) := by decide +kernel
theorem d_M_isBoxed_121 : decode c_M_isBoxed 121 = .ok (.getfield 28, 3) := by decide +kernel
theorem d_M_isBoxed_124 : decode c_M_isBoxed 124 = .ok (.iload 8, 2) := by decide +kernel
theorem d_M_isBoxed_126 : decode c_M_isBoxed 126 = .ok (.iconst 4, 1) := by decide +kernel
theorem d_M_isBoxed_127 : decode c_M_isBoxed 127 = .ok (.iadd, 1) := by decide +kernel
theorem d_M_isBoxed_128 : decode c_M_isBoxed 128 = .ok (.iaload, 1) := by decide +kernel
theorem d_M_isBoxed_129 : decode c_M_isBoxed 129 = .ok (.invokestatic 101, 3) := by decide +kernel
theorem d_M_isBoxed_132 : decode c_M_isBoxed 132 = .ok (.ifCond .eq 7, 3) := by decide +kernel
theorem d_M_isBoxed_135 : decode c_M_isBoxed 135 = .ok (.iconst 1, 1) := by decide +kernel
theorem d_M_isBoxed_136 : decode c_M_isBoxed 136 = .ok (.goto 4, 3) := by decide +kernel
theorem d_M_isBoxed_139 : decode c_M_isBoxed 139 = .ok (.iconst 0, 1) := by decide +kernel
theorem d_M_isBoxed_140 : decode c_M_isBoxed 140 = .ok (.ireturn, 1) := by decide +kernel
theorem d_M_interrupter_0 : decode c_M_interrupter 0 = .ok (.iload_n 1, 1) := by decide +kernel
theorem d_M_interrupter_1 : decode c_M_interrupter 1 = .ok (.iload_n 2, 1) := by decide +kernel
theorem d_M_interrupter_2 : decode c_M_interrupter 2 = .ok (.if_icmp .ge 7, 3) := by decide +kernel
theorem d_M_interrupter_5 : decode c_M_interrupter 5 = .ok (.iload_n 1, 1) := by decide +kernel
theorem d_M_interrupter_6 : decode c_M_interrupter 6 = .ok (.goto 4, 3) := by decide +kernel
theorem d_M_interrupter_9 : decode c_M_interrupter 9 = .ok (.iload_n 2, 1) := by decide +kernel
theorem d_M_interrupter_10 : decode c_M_interrupter 10 = .ok (.istore_n 3, 1) := by decide +kernel
theorem d_M_interrupter_11 : decode c_M_interrupter 11 = .ok (.iload_n 1, 1) := by decide +kernel
theorem d_M_interrupter_12 : decode c_M_interrupter 12 = .ok (.iload_n 2, 1) := by decide +kernel
theorem d_M_interrupter_13 : decode c_M_interrupter 13 = .ok (.if_icmp .ge 7, 3) := by decide +kernel
theorem d_M_interrupter_16 : decode c_M_interrupter 16 = .ok (.iload_n 2, 1) := by decide +kernel
theorem d_M_interrupter_17 : decode c_M_interrupter 17 = .ok (.goto 4, 3) := by decide +kernel
theorem d_M_interrupter_20 : decode c_M_interrupter 20 = .ok (.iload_n 1, 1) := by decide +kernel
theorem d_M_interrupter_21 : decode c_M_interrupter 21 = .ok (.istore 4, 2) := by decide +kernel
theorem d_M_interrupter_23 : decode c_M_interrupter 23 = .ok (.iload_n 3, 1) := by decide +kernel
theorem d_M_interrupter_24 : decode c_M_interrupter 24 = .ok (.iconst 1, 1) := by decide +kernel
theorem d_M_interrupter_25 : decode c_M_interrupter 25 = .ok (.iadd, 1) := by decide +kernel
theorem d_M_interrupter_26 : decode c_M_interrupter 26 = .ok (.istore 5, 2) := by decide +kernel
theorem d_M_interrupter_28 : decode c_M_interrupter 28 = .ok (.iload 5, 2) := by decide +kernel
theorem d_M_interrupter_30 : decode c_M_interrupter 30 = .ok (.iload 4, 2) := by decide +kernel
theorem d_M_interrupter_32 : decode c_M_interrupter 32 = .ok (.if_icmp .ge 26, 3) := by decide +kernel
theorem d_M_interrupter_35 : decode c_M_interrupter 35 = .ok (.aload_n 0, 1) := by decide +kernel
theorem d_M_interrupter_36 : decode c_M_interrupter 36 = .ok (.iload_n 1, 1) := by decide +kernel
theorem d_M_interrupter_37 : decode c_M_interrupter 37 = .ok (.iload_n 2, 1) := by decide +kernel
theorem d_M_interrupter_38 : decode c_M_interrupter 38 = .ok (.iload 5, 2) := by decide +kernel
theorem d_M_interrupter_40 : decode c_M_interrupter 40 = .ok (.invokevirtual 105, 3) := by decide +kernel
theorem d_M_interrupter_43 : decode c_M_interrupter 43 = .ok (.ifCond .eq 9, 3) := by decide +kernel
theorem d_M_interrupter_46 : decode c_M_interrupter 46 = .ok (.bipush 100, 2) := by decide +kernel
theorem d_M_interrupter_48 : decode c_M_interrupter 48 = .ok (.iload 5, 2) := by decide +kernel
theorem d_M_interrupter_50 : decode c_M_interrupter 50 = .ok (.iadd, 1) := by decide +kernel
theorem d_M_interrupter_51 : decode c_M_interrupter 51 = .ok (.ireturn, 1) := by decide +kernel
theorem d_M_interrupter_52 : decode c_M_interrupter 52 = .ok (.iinc 5 1, 3) := by decide +kernel
theorem d_M_interrupter_55 : decode c_M_interrupter 55 = .ok (.goto (-27), 3) := by decide +kernel
theorem d_M_interrupter_58 : decode c_M_interrupter 58 = .ok (.iload_n 3, 1) := by decide +kernel
theorem d_M_interrupter_59 : decode c_M_interrupter 59 = .ok (.iconst 1, 1) := by decide +kernel
theorem d_M_interrupter_60 : decode c_M_interrupter 60 = .ok (.iadd, 1) := by decide +kernel
theorem d_M_interrupter_61 : decode c_M_interrupter 61 = .ok (.istore 5, 2) := by decide +kernel
theorem d_M_interrupter_63 : decode c_M_interrupter 63 = .ok (.iload 5, 2) := by decide +kernel
theorem d_M_interrupter_65 : decode c_M_interrupter 65 = .ok (.iload 4, 2) := by decide +kernel
theorem d_M_interrupter_67 : decode c_M_interrupter 67 = .ok (.if_icmp .ge 27, 3) := by decide +kernel
theorem d_M_interrupter_70 : decode c_M_interrupter 70 = .ok (.aload_n 0, 1) := by decide +kernel
theorem d_M_interrupter_71 : decode c_M_interrupter 71 = .ok (.iload_n 1, 1) := by decide +kernel
theorem d_M_interrupter_72 : decode c_M_interrupter 72 = .ok (.iload_n 2, 1) := by decide +kernel
theorem d_M_interrupter_73 : decode c_M_interrupter 73 = .ok (.iload 5, 2) := by decide +kernel
theorem d_M_interrupter_75 : decode c_M_interrupter 75 = .ok (.invokevirtual 108, 3) := by decide +kernel
theorem d_M_interrupter_78 : decode c_M_interrupter 78 = .ok (.ifCond .eq 10, 3) := by decide +kernel
theorem d_M_interrupter_81 : decode c_M_interrupter 81 = .ok (.sipush 200, 3) := by decide +kernel
theorem d_M_interrupter_84 : decode c_M_interrupter 84 = .ok (.iload 5, 2) := by decide +kernel
theorem d_M_interrupter_86 : decode c_M_interrupter 86 = .ok (.iadd, 1) := by decide +kernel
theorem d_M_interrupter_87 : decode c_M_interrupter 87 = .ok (.ireturn, 1) := by decide +kernel
theorem d_M_interrupter_88 : decode c_M_interrupter 88 = .ok (.iinc 5 1, 3) := by decide +kernel
theorem d_M_interrupter_91 : decode c_M_interrupter 91 = .ok (.goto (-28), 3) := by decide +kernel
theorem d_M_interrupter_94 : decode c_M_interrupter 94 = .ok (.iconst 0, 1) := by decide +kernel
theorem d_M_interrupter_95 : decode c_M_interrupter 95 = .ok (.istore 5, 2) := by decide +kernel
theorem d_M_interrupter_97 : decode c_M_interrupter 97 = .ok (.iload 5, 2) := by decide +kernel
theorem d_M_interrupter_99 : decode c_M_interrupter 99 = .ok (.aload_n 0, 1) := by decide +kernel
theorem d_M_interrupter_100 : decode c_M_interrupter 100 = .ok (.getfield 73, 3) := by decide +kernel
theorem d_M_interrupter_103 : decode c_M_interrupter 103 = .ok (.if_icmp .ge 71, 3) := by decide +kernel
theorem d_M_interrupter_106 : decode c_M_interrupter 106 = .ok (.aload_n 0, 1) := by decide +kernel
theorem d_M_interrupter_107 : decode c_M_interrupter 107 = .ok (.iload 5, 2) := by decide +kernel
theorem d_M_interrupter_109 : decode c_M_interrupter 109 = .ok (.aload_n 0, 1) := by decide +kernel
theorem d_M_interrupter_110 : decode c_M_interrupter 110 = .ok (.getfield 7, 3) := by decide +kernel
theorem d_M_interrupter_113 : decode c_M_interrupter 113 = .ok (.iload_n 1, 1) := by decide +kernel
theorem d_M_interrupter_114 : decode c_M_interrupter 114 = .ok (.iaload, 1) := by decide +kernel
theorem d_M_interrupter_115 : decode c_M_interrupter 115 = .ok (.aload_n 0, 1) := by decide +kernel
theorem d_M_interrupter_116 : decode c_M_interrupter 116 = .ok (.getfield 13, 3) := by decide +kernel
theorem d_M_interrupter_119 : decode c_M_interrupter 119 = .ok (.iload_n 1, 1) := by decide +kernel
theorem d_M_interrupter_120 : decode c_M_interrupter 120 = .ok (.iaload, 1) := by decide +kernel
theorem d_M_interrupter_121 : decode c_M_interrupter 121 = .ok (.aload_n 0, 1) := by decide +kernel
theorem d_M_interrupter_122 : decode c_M_interrupter 122 = .ok (.getfield 16, 3) := by decide +kernel
theorem d_M_interrupter_125 : decode c_M_interrupter 125 = .ok (.iload_n 1, 1) := by decide +kernel
theorem d_M_interrupter_126 : decode c_M_interrupter 126 = .ok (.iaload, 1) := by decide +kernel
theorem d_M_interrupter_127 : decode c_M_interrupter 127 = .ok (.aload_n 0, 1) := by decide +kernel
theorem d_M_interrupter_128 : decode c_M_interrupter 128 = .ok (.getfield 31, 3) := by decide +kernel
theorem d_M_interrupter_131 : decode c_M_interrupter 131 = .ok (.iadd, 1) := by decide +kernel
theorem d_M_interrupter_132 : decode c_M_interrupter 132 = .ok (.aload_n 0, 1) := by decide +kernel
theorem d_M_interrupter_133 : decode c_M_interrupter 133 = .ok (.getfield 7, 3) := by decide +kernel
theorem d_M_interrupter_136 : decode c_M_interrupter 136 = .ok (.iload_n 2, 1) := by decide +kernel
theorem d_M_interrupter_137 : decode c_M_interrupter 137 = .ok (.iaload, 1) := by decide +kernel
theorem d_M_interrupter_138 : decode c_M_interrupter 138 = .ok (.aload_n 0, 1) := by decide +kernel
theorem d_M_interrupter_139 : decode c_M_interrupter 139 = .ok (.getfield 13, 3) := by decide +kernel
theorem d_M_interrupter_142 : decode c_M_interrupter 142 = .ok (.iload_n 2, 1) := by decide +kernel
theorem d_M_interrupter_143 : decode c_M_interrupter 143 = .ok (.iaload, 1) := by decide +kernel
theorem d_M_interrupter_144 : decode c_M_interrupter 144 = .ok (.aload_n 0, 1) := by decide +kernel
theorem d_M_interrupter_145 : decode c_M_interrupter 145 = .ok (.getfield 16, 3) := by decide +kernel
theorem d_M_interrupter_148 : decode c_M_interrupter 148 = .ok (.iload_n 2, 1) := by decide +kernel
theorem d_M_interrupter_149 : decode c_M_interrupter 149 = .ok (.iaload, 1) := by decide +kernel
theorem d_M_interrupter_150 : decode c_M_interrupter 150 = .ok (.aload_n 0, 1) := by decide +kernel
theorem d_M_interrupter_151 : decode c_M_interrupter 151 = .ok (.getfield 35, 3) := by decide +kernel
theorem d_M_interrupter_154 : decode c_M_interrupter 154 = .ok (.iadd, 1) := by decide +kernel
theorem d_M_interrupter_155 : decode c_M_interrupter 155 = .ok (.invokevirtual 111, 3) := by decide +kernel
theorem d_M_interrupter_158 : decode c_M_interrupter 158 = .ok (.ifCond .eq 10, 3) := by decide +kernel
theorem d_M_interrupter_161 : decode c_M_interrupter 161 = .ok (.sipush 300, 3) := by decide +kernel
theorem d_M_interrupter_164 : decode c_M_interrupter 164 = .ok (.iload 5, 2) := by decide +kernel
theorem d_M_interrupter_166 : decode c_M_interrupter 166 = .ok (.iadd, 1) := by decide +kernel
theorem d_M_interrupter_167 : decode c_M_interrupter 167 = .ok (.ireturn, 1) := by decide +kernel
theorem d_M_interrupter_168 : decode c_M_interrupter 168 = .ok (.iinc 5 1, 3) := by decide +kernel
theorem d_M_interrupter_171 : decode c_M_interrupter 171 = .ok (.goto (-74), 3) := by decide +kernel
theorem d_M_interrupter_174 : decode c_M_interrupter 174 = .ok (.iconst 0, 1) := by decide +kernel
theorem d_M_interrupter_175 : decode c_M_interrupter 175 = .ok (.ireturn, 1) := by decide +kernel
theorem d_M_view_0 : decode c_M_view 0 = .ok (.aload_n 0, 1) := by decide +kernel
theorem d_M_view_1 : decode c_M_view 1 = .ok (.iload_n 1, 1) := by decide +kernel
theorem d_M_view_2 : decode c_M_view 2 = .ok (.invokevirtual 69, 3) := by decide +kernel
theorem d_M_view_5 : decode c_M_view 5 = .ok (.ifCond .eq 25, 3) := by decide +kernel
theorem d_M_view_8 : decode c_M_view 8 = .ok (.aload_n 0, 1) := by decide +kernel
theorem d_M_view_9 : decode c_M_view 9 = .ok (.iload_n 2, 1) := by decide +kernel
theorem d_M_view_10 : decode c_M_view 10 = .ok (.invokevirtual 69, 3) := by decide +kernel
theorem d_M_view_13 : decode c_M_view 13 = .ok (.ifCond .eq 17, 3) := by decide +kernel
theorem d_M_view_16 : decode c_M_view 16 = .ok (.iload_n 1, 1) := by decide +kernel
theorem d_M_view_17 : decode c_M_view 17 = .ok (.iload_n 2, 1) := by decide +kernel
theorem d_M_view_18 : decode c_M_view 18 = .ok (.if_icmp .eq 12, 3) := by decide +kernel
theorem d_M_view_21 : decode c_M_view 21 = .ok (.iload_n 3, 1) := by decide +kernel
theorem d_M_view_22 : decode c_M_view 22 = .ok (.iconst 0, 1) := by decide +kernel
theorem d_M_view_23 : decode c_M_view 23 = .ok (.iconst 1, 1) := by decide +kernel
theorem d_M_view_24 : decode c_M_view 24 = .ok (.invokestatic 51, 3) := by decide +kernel
theorem d_M_view_27 : decode c_M_view 27 = .ok (.ifCond .ne 5, 3) := by decide +kernel
theorem d_M_view_30 : decode c_M_view 30 = .ok (.iconst (-1), 1) := by decide +kernel
theorem d_M_view_31 : decode c_M_view 31 = .ok (.ireturn, 1) := by decide +kernel
theorem d_M_view_32 : decode c_M_view 32 = .ok (.aload_n 0, 1) := by decide +kernel
theorem d_M_view_33 : decode c_M_view 33 = .ok (.iload_n 1, 1) := by decide +kernel
theorem d_M_view_34 : decode c_M_view 34 = .ok (.iload_n 2, 1) := by decide +kernel
theorem d_M_view_35 : decode c_M_view 35 = .ok (.invokevirtual 115, 3) := by decide +kernel
theorem d_M_view_38 : decode c_M_view 38 = .ok (.istore 4, 2) := by decide +kernel
theorem d_M_view_40 : decode c_M_view 40 = .ok (.iload_n 3, 1) := by decide +kernel
theorem d_M_view_41 : decode c_M_view 41 = .ok (.ifCond .ne 11, 3) := by decide +kernel
theorem d_M_view_44 : decode c_M_view 44 = .ok (.iload 4, 2) := by decide +kernel
theorem d_M_view_46 : decode c_M_view 46 = .ok (.bipush 100, 2) := by decide +kernel
theorem d_M_view_48 : decode c_M_view 48 = .ok (.idiv, 1) := by decide +kernel
theorem d_M_view_49 : decode c_M_view 49 = .ok (.goto 17, 3) := by decide +kernel
theorem d_M_view_52 : decode c_M_view 52 = .ok (.iload 4, 2) := by decide +kernel
theorem d_M_view_54 : decode c_M_view 54 = .ok (.ifCond .ne 7, 3) := by decide +kernel
theorem d_M_view_57 : decode c_M_view 57 = .ok (.iconst (-1), 1) := by decide +kernel
theorem d_M_view_58 : decode c_M_view 58 = .ok (.goto 8, 3) := by decide +kernel
theorem d_M_view_61 : decode c_M_view 61 = .ok (.iload 4, 2) := by decide +kernel
theorem d_M_view_63 : decode c_M_view 63 = .ok (.bipush 100, 2) := by decide +kernel
theorem d_M_view_65 : decode c_M_view 65 = .ok (.irem, 1) := by decide +kernel
theorem d_M_view_66 : decode c_M_view 66 = .ok (.ireturn, 1) := by decide +kernel
theorem d_M_sightOf_0 : decode c_M_sightOf 0 = .ok (.iload_n 2, 1) := by decide +kernel
theorem d_M_sightOf_1 : decode c_M_sightOf 1 = .ok (.ifCond .eq 7, 3) := by decide +kernel
theorem d_M_sightOf_4 : decode c_M_sightOf 4 = .ok (.iconst (-1), 1) := by decide +kernel
theorem d_M_sightOf_5 : decode c_M_sightOf 5 = .ok (.goto 4, 3) := by decide +kernel
theorem d_M_sightOf_8 : decode c_M_sightOf 8 = .ok (.iconst 1, 1) := by decide +kernel
theorem d_M_sightOf_9 : decode c_M_sightOf 9 = .ok (.istore_n 3, 1) := by decide +kernel
theorem d_M_sightOf_10 : decode c_M_sightOf 10 = .ok (.iload_n 1, 1) := by decide +kernel
theorem d_M_sightOf_11 : decode c_M_sightOf 11 = .ok (.istore 4, 2) := by decide +kernel
theorem d_M_sightOf_13 : decode c_M_sightOf 13 = .ok (.aload_n 0, 1) := by decide +kernel
theorem d_M_sightOf_14 : decode c_M_sightOf 14 = .ok (.iload 4, 2) := by decide +kernel
theorem d_M_sightOf_16 : decode c_M_sightOf 16 = .ok (.iload_n 3, 1) := by decide +kernel
theorem d_M_sightOf_17 : decode c_M_sightOf 17 = .ok (.iadd, 1) := by decide +kernel
theorem d_M_sightOf_18 : decode c_M_sightOf 18 = .ok (.invokevirtual 69, 3) := by decide +kernel
theorem d_M_sightOf_21 : decode c_M_sightOf 21 = .ok (.ifCond .eq 24, 3) := by decide +kernel
theorem d_M_sightOf_24 : decode c_M_sightOf 24 = .ok (.aload_n 0, 1) := by decide +kernel
theorem d_M_sightOf_25 : decode c_M_sightOf 25 = .ok (.iload_n 1, 1) := by decide +kernel
theorem d_M_sightOf_26 : decode c_M_sightOf 26 = .ok (.iload 4, 2) := by decide +kernel
theorem d_M_sightOf_28 : decode c_M_sightOf 28 = .ok (.iload_n 3, 1) := by decide +kernel
theorem d_M_sightOf_29 : decode c_M_sightOf 29 = .ok (.iadd, 1) := by decide +kernel
theorem d_M_sightOf_30 : decode c_M_sightOf 30 = .ok (.invokevirtual 115, 3) := by decide +kernel
theorem d_M_sightOf_33 : decode c_M_sightOf 33 = .ok (.ifCond .ne 12, 3) := by decide +kernel
theorem d_M_sightOf_36 : decode c_M_sightOf 36 = .ok (.iload 4, 2) := by decide +kernel
theorem d_M_sightOf_38 : decode c_M_sightOf 38 = .ok (.iload_n 3, 1) := by decide +kernel
theorem d_M_sightOf_39 : decode c_M_sightOf 39 = .ok (.iadd, 1) := by decide +kernel
theorem d_M_sightOf_40 : decode c_M_sightOf 40 = .ok (.istore 4, 2) := by decide +kernel
theorem d_M_sightOf_42 : decode c_M_sightOf 42 = .ok (.goto (-29), 3) := by decide +kernel
theorem d_M_sightOf_45 : decode c_M_sightOf 45 = .ok (.iload_n 2, 1) := by decide +kernel
theorem d_M_sightOf_46 : decode c_M_sightOf 46 = .ok (.ifCond .eq 20, 3) := by decide +kernel
theorem d_M_sightOf_49 : decode c_M_sightOf 49 = .ok (.aload_n 0, 1) := by decide +kernel
theorem d_M_sightOf_50 : decode c_M_sightOf 50 = .ok (.getfield 19, 3) := by decide +kernel
theorem d_M_sightOf_53 : decode c_M_sightOf 53 = .ok (.iload_n 1, 1) := by decide +kernel
theorem d_M_sightOf_54 : decode c_M_sightOf 54 = .ok (.iaload, 1) := by decide +kernel
theorem d_M_sightOf_55 : decode c_M_sightOf 55 = .ok (.aload_n 0, 1) := by decide +kernel
theorem d_M_sightOf_56 : decode c_M_sightOf 56 = .ok (.getfield 19, 3) := by decide +kernel
theorem d_M_sightOf_59 : decode c_M_sightOf 59 = .ok (.iload 4, 2) := by decide +kernel
theorem d_M_sightOf_61 : decode c_M_sightOf 61 = .ok (.iaload, 1) := by decide +kernel
theorem d_M_sightOf_62 : decode c_M_sightOf 62 = .ok (.isub, 1) := by decide +kernel
theorem d_M_sightOf_63 : decode c_M_sightOf 63 = .ok (.goto 17, 3) := by decide +kernel
theorem d_M_sightOf_66 : decode c_M_sightOf 66 = .ok (.aload_n 0, 1) := by decide +kernel
theorem d_M_sightOf_67 : decode c_M_sightOf 67 = .ok (.getfield 19, 3) := by decide +kernel
theorem d_M_sightOf_70 : decode c_M_sightOf 70 = .ok (.iload 4, 2) := by decide +kernel
theorem d_M_sightOf_72 : decode c_M_sightOf 72 = .ok (.iaload, 1) := by decide +kernel
theorem d_M_sightOf_73 : decode c_M_sightOf 73 = .ok (.aload_n 0, 1) := by decide +kernel
theorem d_M_sightOf_74 : decode c_M_sightOf 74 = .ok (.getfield 19, 3) := by decide +kernel
theorem d_M_sightOf_77 : decode c_M_sightOf 77 = .ok (.iload_n 1, 1) := by decide +kernel
theorem d_M_sightOf_78 : decode c_M_sightOf 78 = .ok (.iaload, 1) := by decide +kernel
theorem d_M_sightOf_79 : decode c_M_sightOf 79 = .ok (.isub, 1) := by decide +kernel
theorem d_M_sightOf_80 : decode c_M_sightOf 80 = .ok (.ireturn, 1) := by decide +kernel
theorem d_M_needOf_0 : decode c_M_needOf 0 = .ok (.iload_n 2, 1) := by decide +kernel
theorem d_M_needOf_1 : decode c_M_needOf 1 = .ok (.ifCond .eq 9, 3) := by decide +kernel
theorem d_M_needOf_4 : decode c_M_needOf 4 = .ok (.iload_n 1, 1) := by decide +kernel
theorem d_M_needOf_5 : decode c_M_needOf 5 = .ok (.iconst 1, 1) := by decide +kernel
theorem d_M_needOf_6 : decode c_M_needOf 6 = .ok (.isub, 1) := by decide +kernel
theorem d_M_needOf_7 : decode c_M_needOf 7 = .ok (.goto 6, 3) := by decide +kernel
theorem d_M_needOf_10 : decode c_M_needOf 10 = .ok (.iload_n 1, 1) := by decide +kernel
theorem d_M_needOf_11 : decode c_M_needOf 11 = .ok (.iconst 1, 1) := by decide +kernel
theorem d_M_needOf_12 : decode c_M_needOf 12 = .ok (.iadd, 1) := by decide +kernel
theorem d_M_needOf_13 : decode c_M_needOf 13 = .ok (.istore 4, 2) := by decide +kernel
theorem d_M_needOf_15 : decode c_M_needOf 15 = .ok (.lconst 0, 1) := by decide +kernel
theorem d_M_needOf_16 : decode c_M_needOf 16 = .ok (.lstore 5, 2) := by decide +kernel
theorem d_M_needOf_18 : decode c_M_needOf 18 = .ok (.aload_n 0, 1) := by decide +kernel
theorem d_M_needOf_19 : decode c_M_needOf 19 = .ok (.iload 4, 2) := by decide +kernel
theorem d_M_needOf_21 : decode c_M_needOf 21 = .ok (.invokevirtual 69, 3) := by decide +kernel
theorem d_M_needOf_24 : decode c_M_needOf 24 = .ok (.ifCond .eq 70, 3) := by decide +kernel
theorem d_M_needOf_27 : decode c_M_needOf 27 = .ok (.iload_n 2, 1) := by decide +kernel
theorem d_M_needOf_28 : decode c_M_needOf 28 = .ok (.ifCond .eq 21, 3) := by decide +kernel
theorem d_M_needOf_31 : decode c_M_needOf 31 = .ok (.aload_n 0, 1) := by decide +kernel
theorem d_M_needOf_32 : decode c_M_needOf 32 = .ok (.getfield 19, 3) := by decide +kernel
theorem d_M_needOf_35 : decode c_M_needOf 35 = .ok (.iload_n 1, 1) := by decide +kernel
theorem d_M_needOf_36 : decode c_M_needOf 36 = .ok (.iaload, 1) := by decide +kernel
theorem d_M_needOf_37 : decode c_M_needOf 37 = .ok (.aload_n 0, 1) := by decide +kernel
theorem d_M_needOf_38 : decode c_M_needOf 38 = .ok (.getfield 19, 3) := by decide +kernel
theorem d_M_needOf_41 : decode c_M_needOf 41 = .ok (.iload 4, 2) := by decide +kernel
theorem d_M_needOf_43 : decode c_M_needOf 43 = .ok (.iaload, 1) := by decide +kernel
theorem d_M_needOf_44 : decode c_M_needOf 44 = .ok (.isub, 1) := by decide +kernel
theorem d_M_needOf_45 : decode c_M_needOf 45 = .ok (.i2l, 1) := by decide +kernel
theorem d_M_needOf_46 : decode c_M_needOf 46 = .ok (.goto 18, 3) := by decide +kernel
theorem d_M_needOf_49 : decode c_M_needOf 49 = .ok (.aload_n 0, 1) := by decide +kernel
theorem d_M_needOf_50 : decode c_M_needOf 50 = .ok (.getfield 19, 3) := by decide +kernel
theorem d_M_needOf_53 : decode c_M_needOf 53 = .ok (.iload 4, 2) := by decide +kernel
theorem d_M_needOf_55 : decode c_M_needOf 55 = .ok (.iaload, 1) := by decide +kernel
theorem d_M_needOf_56 : decode c_M_needOf 56 = .ok (.aload_n 0, 1) := by decide +kernel
theorem d_M_needOf_57 : decode c_M_needOf 57 = .ok (.getfield 19, 3) := by decide +kernel
theorem d_M_needOf_60 : decode c_M_needOf 60 = .ok (.iload_n 1, 1) := by decide +kernel
theorem d_M_needOf_61 : decode c_M_needOf 61 = .ok (.iaload, 1) := by decide +kernel
theorem d_M_needOf_62 : decode c_M_needOf 62 = .ok (.isub, 1) := by decide +kernel
theorem d_M_needOf_63 : decode c_M_needOf 63 = .ok (.i2l, 1) := by decide +kernel
theorem d_M_needOf_64 : decode c_M_needOf 64 = .ok (.lstore 7, 2) := by decide +kernel
theorem d_M_needOf_66 : decode c_M_needOf 66 = .ok (.ldc2_w 119, 3) := by decide +kernel
theorem d_M_needOf_69 : decode c_M_needOf 69 = .ok (.aload_n 0, 1) := by decide +kernel
theorem d_M_needOf_70 : decode c_M_needOf 70 = .ok (.getfield 16, 3) := by decide +kernel
theorem d_M_needOf_73 : decode c_M_needOf 73 = .ok (.iload 4, 2) := by decide +kernel
theorem d_M_needOf_75 : decode c_M_needOf 75 = .ok (.iaload, 1) := by decide +kernel
theorem d_M_needOf_76 : decode c_M_needOf 76 = .ok (.aload_n 0, 1) := by decide +kernel
theorem d_M_needOf_77 : decode c_M_needOf 77 = .ok (.getfield 16, 3) := by decide +kernel
theorem d_M_needOf_80 : decode c_M_needOf 80 = .ok (.iload_n 1, 1) := by decide +kernel
theorem d_M_needOf_81 : decode c_M_needOf 81 = .ok (.iaload, 1) := by decide +kernel
theorem d_M_needOf_82 : decode c_M_needOf 82 = .ok (.isub, 1) := by decide +kernel
theorem d_M_needOf_83 : decode c_M_needOf 83 = .ok (.i2l, 1) := by decide +kernel
theorem d_M_needOf_84 : decode c_M_needOf 84 = .ok (.lmul, 1) := by decide +kernel
theorem d_M_needOf_85 : decode c_M_needOf 85 = .ok (.ldc2_w 121, 3) := by decide +kernel
theorem d_M_needOf_88 : decode c_M_needOf 88 = .ok (.lload 7, 2) := by decide +kernel
theorem d_M_needOf_90 : decode c_M_needOf 90 = .ok (.lmul, 1) := by decide +kernel
theorem d_M_needOf_91 : decode c_M_needOf 91 = .ok (.ldiv, 1) := by decide +kernel
theorem d_M_needOf_92 : decode c_M_needOf 92 = .ok (.lstore 5, 2) := by decide +kernel
theorem d_M_needOf_94 : decode c_M_needOf 94 = .ok (.aload_n 0, 1) := by decide +kernel
theorem d_M_needOf_95 : decode c_M_needOf 95 = .ok (.getfield 41, 3) := by decide +kernel
theorem d_M_needOf_98 : decode c_M_needOf 98 = .ok (.i2l, 1) := by decide +kernel
theorem d_M_needOf_99 : decode c_M_needOf 99 = .ok (.lload 5, 2) := by decide +kernel
theorem d_M_needOf_101 : decode c_M_needOf 101 = .ok (.ladd, 1) := by decide +kernel
theorem d_M_needOf_102 : decode c_M_needOf 102 = .ok (.ldc2_w 123, 3) := by decide +kernel
theorem d_M_needOf_105 : decode c_M_needOf 105 = .ok (.lcmp, 1) := by decide +kernel
theorem d_M_needOf_106 : decode c_M_needOf 106 = .ok (.ifCond .ge 9, 3) := by decide +kernel
theorem d_M_needOf_109 : decode c_M_needOf 109 = .ok (.ldc2_w 123, 3) := by decide +kernel
theorem d_M_needOf_112 : decode c_M_needOf 112 = .ok (.goto 11, 3) := by decide +kernel
theorem d_M_needOf_115 : decode c_M_needOf 115 = .ok (.aload_n 0, 1) := by decide +kernel
theorem d_M_needOf_116 : decode c_M_needOf 116 = .ok (.getfield 41, 3) := by decide +kernel
theorem d_M_needOf_119 : decode c_M_needOf 119 = .ok (.i2l, 1) := by decide +kernel
theorem d_M_needOf_120 : decode c_M_needOf 120 = .ok (.lload 5, 2) := by decide +kernel
theorem d_M_needOf_122 : decode c_M_needOf 122 = .ok (.ladd, 1) := by decide +kernel
theorem d_M_needOf_123 : decode c_M_needOf 123 = .ok (.lstore 7, 2) := by decide +kernel
theorem d_M_needOf_125 : decode c_M_needOf 125 = .ok (.iload_n 3, 1) := by decide +kernel
theorem d_M_needOf_126 : decode c_M_needOf 126 = .ok (.aload_n 0, 1) := by decide +kernel
theorem d_M_needOf_127 : decode c_M_needOf 127 = .ok (.getfield 38, 3) := by decide +kernel
theorem d_M_needOf_130 : decode c_M_needOf 130 = .ok (.imul, 1) := by decide +kernel
theorem d_M_needOf_131 : decode c_M_needOf 131 = .ok (.bipush 10, 2) := by decide +kernel
theorem d_M_needOf_133 : decode c_M_needOf 133 = .ok (.imul, 1) := by decide +kernel
theorem d_M_needOf_134 : decode c_M_needOf 134 = .ok (.bipush 36, 2) := by decide +kernel
theorem d_M_needOf_136 : decode c_M_needOf 136 = .ok (.idiv, 1) := by decide +kernel
theorem d_M_needOf_137 : decode c_M_needOf 137 = .ok (.ldc2_w 47, 3) := by decide +kernel
theorem d_M_needOf_140 : decode c_M_needOf 140 = .ok (.iload_n 3, 1) := by decide +kernel
theorem d_M_needOf_141 : decode c_M_needOf 141 = .ok (.i2l, 1) := by decide +kernel
theorem d_M_needOf_142 : decode c_M_needOf 142 = .ok (.lmul, 1) := by decide +kernel
theorem d_M_needOf_143 : decode c_M_needOf 143 = .ok (.iload_n 3, 1) := by decide +kernel
theorem d_M_needOf_144 : decode c_M_needOf 144 = .ok (.i2l, 1) := by decide +kernel
theorem d_M_needOf_145 : decode c_M_needOf 145 = .ok (.lmul, 1) := by decide +kernel
theorem d_M_needOf_146 : decode c_M_needOf 146 = .ok (.ldc2_w 125, 3) := by decide +kernel
theorem d_M_needOf_149 : decode c_M_needOf 149 = .ok (.lload 7, 2) := by decide +kernel
theorem d_M_needOf_151 : decode c_M_needOf 151 = .ok (.lmul, 1) := by decide +kernel
theorem d_M_needOf_152 : decode c_M_needOf 152 = .ok (.ldiv, 1) := by decide +kernel
theorem d_M_needOf_153 : decode c_M_needOf 153 = .ok (.l2i, 1) := by decide +kernel
theorem d_M_needOf_154 : decode c_M_needOf 154 = .ok (.iadd, 1) := by decide +kernel
theorem d_M_needOf_155 : decode c_M_needOf 155 = .ok (.ireturn, 1) := by decide +kernel
theorem d_M_remaining_0 : decode c_M_remaining 0 = .ok (.iload_n 2, 1) := by decide +kernel
theorem d_M_remaining_1 : decode c_M_remaining 1 = .ok (.ifCond .eq 12, 3) := by decide +kernel
theorem d_M_remaining_4 : decode c_M_remaining 4 = .ok (.aload_n 0, 1) := by decide +kernel
theorem d_M_remaining_5 : decode c_M_remaining 5 = .ok (.getfield 19, 3) := by decide +kernel
theorem d_M_remaining_8 : decode c_M_remaining 8 = .ok (.iload_n 1, 1) := by decide +kernel
theorem d_M_remaining_9 : decode c_M_remaining 9 = .ok (.iaload, 1) := by decide +kernel
theorem d_M_remaining_10 : decode c_M_remaining 10 = .ok (.goto 21, 3) := by decide +kernel
theorem d_M_remaining_13 : decode c_M_remaining 13 = .ok (.aload_n 0, 1) := by decide +kernel
theorem d_M_remaining_14 : decode c_M_remaining 14 = .ok (.getfield 19, 3) := by decide +kernel
theorem d_M_remaining_17 : decode c_M_remaining 17 = .ok (.aload_n 0, 1) := by decide +kernel
theorem d_M_remaining_18 : decode c_M_remaining 18 = .ok (.getfield 44, 3) := by decide +kernel
theorem d_M_remaining_21 : decode c_M_remaining 21 = .ok (.iconst 1, 1) := by decide +kernel
theorem d_M_remaining_22 : decode c_M_remaining 22 = .ok (.isub, 1) := by decide +kernel
theorem d_M_remaining_23 : decode c_M_remaining 23 = .ok (.iaload, 1) := by decide +kernel
theorem d_M_remaining_24 : decode c_M_remaining 24 = .ok (.aload_n 0, 1) := by decide +kernel
theorem d_M_remaining_25 : decode c_M_remaining 25 = .ok (.getfield 19, 3) := by decide +kernel
theorem d_M_remaining_28 : decode c_M_remaining 28 = .ok (.iload_n 1, 1) := by decide +kernel
theorem d_M_remaining_29 : decode c_M_remaining 29 = .ok (.iaload, 1) := by decide +kernel
theorem d_M_remaining_30 : decode c_M_remaining 30 = .ok (.isub, 1) := by decide +kernel
theorem d_M_remaining_31 : decode c_M_remaining 31 = .ok (.ireturn, 1) := by decide +kernel
theorem d_M_isBlind_0 : decode c_M_isBlind 0 = .ok (.aload_n 0, 1) := by decide +kernel
theorem d_M_isBlind_1 : decode c_M_isBlind 1 = .ok (.iload_n 1, 1) := by decide +kernel
theorem d_M_isBlind_2 : decode c_M_isBlind 2 = .ok (.iload_n 2, 1) := by decide +kernel
theorem d_M_isBlind_3 : decode c_M_isBlind 3 = .ok (.aload_n 0, 1) := by decide +kernel
theorem d_M_isBlind_4 : decode c_M_isBlind 4 = .ok (.getfield 22, 3) := by decide +kernel
theorem d_M_isBlind_7 : decode c_M_isBlind 7 = .ok (.iload_n 1, 1) := by decide +kernel
theorem d_M_isBlind_8 : decode c_M_isBlind 8 = .ok (.iaload, 1) := by decide +kernel
theorem d_M_isBlind_9 : decode c_M_isBlind 9 = .ok (.invokevirtual 127, 3) := by decide +kernel
theorem d_M_isBlind_12 : decode c_M_isBlind 12 = .ok (.istore_n 3, 1) := by decide +kernel
theorem d_M_isBlind_13 : decode c_M_isBlind 13 = .ok (.aload_n 0, 1) := by decide +kernel
theorem d_M_isBlind_14 : decode c_M_isBlind 14 = .ok (.iload_n 1, 1) := by decide +kernel
theorem d_M_isBlind_15 : decode c_M_isBlind 15 = .ok (.iload_n 2, 1) := by decide +kernel
theorem d_M_isBlind_16 : decode c_M_isBlind 16 = .ok (.invokevirtual 131, 3) := by decide +kernel
theorem d_M_isBlind_19 : decode c_M_isBlind 19 = .ok (.iload_n 3, 1) := by decide +kernel
theorem d_M_isBlind_20 : decode c_M_isBlind 20 = .ok (.if_icmp .lt 17, 3) := by decide +kernel
theorem d_M_isBlind_23 : decode c_M_isBlind 23 = .ok (.aload_n 0, 1) := by decide +kernel
theorem d_M_isBlind_24 : decode c_M_isBlind 24 = .ok (.iload_n 1, 1) := by decide +kernel
theorem d_M_isBlind_25 : decode c_M_isBlind 25 = .ok (.iload_n 2, 1) := by decide +kernel
theorem d_M_isBlind_26 : decode c_M_isBlind 26 = .ok (.invokevirtual 135, 3) := by decide +kernel
theorem d_M_isBlind_29 : decode c_M_isBlind 29 = .ok (.iload_n 3, 1) := by decide +kernel
theorem d_M_isBlind_30 : decode c_M_isBlind 30 = .ok (.if_icmp .ge 7, 3) := by decide +kernel
theorem d_M_isBlind_33 : decode c_M_isBlind 33 = .ok (.iconst 1, 1) := by decide +kernel
theorem d_M_isBlind_34 : decode c_M_isBlind 34 = .ok (.goto 4, 3) := by decide +kernel
theorem d_M_isBlind_37 : decode c_M_isBlind 37 = .ok (.iconst 0, 1) := by decide +kernel
theorem d_M_isBlind_38 : decode c_M_isBlind 38 = .ok (.ireturn, 1) := by decide +kernel
theorem d_M_sight_0 : decode c_M_sight 0 = .ok (.aload_n 0, 1) := by decide +kernel
theorem d_M_sight_1 : decode c_M_sight 1 = .ok (.iload_n 1, 1) := by decide +kernel
theorem d_M_sight_2 : decode c_M_sight 2 = .ok (.invokevirtual 69, 3) := by decide +kernel
theorem d_M_sight_5 : decode c_M_sight 5 = .ok (.ifCond .eq 12, 3) := by decide +kernel
theorem d_M_sight_8 : decode c_M_sight 8 = .ok (.aload_n 0, 1) := by decide +kernel
theorem d_M_sight_9 : decode c_M_sight 9 = .ok (.iload_n 1, 1) := by decide +kernel
theorem d_M_sight_10 : decode c_M_sight 10 = .ok (.iload_n 2, 1) := by decide +kernel
theorem d_M_sight_11 : decode c_M_sight 11 = .ok (.invokevirtual 135, 3) := by decide +kernel
theorem d_M_sight_14 : decode c_M_sight 14 = .ok (.goto 4, 3) := by decide +kernel
theorem d_M_sight_17 : decode c_M_sight 17 = .ok (.iconst (-1), 1) := by decide +kernel
theorem d_M_sight_18 : decode c_M_sight 18 = .ok (.ireturn, 1) := by decide +kernel
theorem d_M_need_0 : decode c_M_need 0 = .ok (.aload_n 0, 1) := by decide +kernel
theorem d_M_need_1 : decode c_M_need 1 = .ok (.iload_n 1, 1) := by decide +kernel
theorem d_M_need_2 : decode c_M_need 2 = .ok (.invokevirtual 69, 3) := by decide +kernel
theorem d_M_need_5 : decode c_M_need 5 = .ok (.ifCond .eq 18, 3) := by decide +kernel
theorem d_M_need_8 : decode c_M_need 8 = .ok (.aload_n 0, 1) := by decide +kernel
theorem d_M_need_9 : decode c_M_need 9 = .ok (.iload_n 1, 1) := by decide +kernel
theorem d_M_need_10 : decode c_M_need 10 = .ok (.iload_n 2, 1) := by decide +kernel
theorem d_M_need_11 : decode c_M_need 11 = .ok (.aload_n 0, 1) := by decide +kernel
theorem d_M_need_12 : decode c_M_need 12 = .ok (.getfield 22, 3) := by decide +kernel
theorem d_M_need_15 : decode c_M_need 15 = .ok (.iload_n 1, 1) := by decide +kernel
theorem d_M_need_16 : decode c_M_need 16 = .ok (.iaload, 1) := by decide +kernel
theorem d_M_need_17 : decode c_M_need 17 = .ok (.invokevirtual 127, 3) := by decide +kernel
theorem d_M_need_20 : decode c_M_need 20 = .ok (.goto 4, 3) := by decide +kernel
theorem d_M_need_23 : decode c_M_need 23 = .ok (.iconst (-1), 1) := by decide +kernel
theorem d_M_need_24 : decode c_M_need 24 = .ok (.ireturn, 1) := by decide +kernel
theorem d_M_blind_0 : decode c_M_blind 0 = .ok (.iload_n 2, 1) := by decide +kernel
theorem d_M_blind_1 : decode c_M_blind 1 = .ok (.istore 4, 2) := by decide +kernel
theorem d_M_blind_3 : decode c_M_blind 3 = .ok (.iconst 0, 1) := by decide +kernel
theorem d_M_blind_4 : decode c_M_blind 4 = .ok (.istore 5, 2) := by decide +kernel
theorem d_M_blind_6 : decode c_M_blind 6 = .ok (.iload 5, 2) := by decide +kernel
theorem d_M_blind_8 : decode c_M_blind 8 = .ok (.aload_n 0, 1) := by decide +kernel
theorem d_M_blind_9 : decode c_M_blind 9 = .ok (.getfield 44, 3) := by decide +kernel
theorem d_M_blind_12 : decode c_M_blind 12 = .ok (.if_icmp .ge 86, 3) := by decide +kernel
theorem d_M_blind_15 : decode c_M_blind 15 = .ok (.iload 4, 2) := by decide +kernel
theorem d_M_blind_17 : decode c_M_blind 17 = .ok (.ifCond .lt 81, 3) := by decide +kernel
theorem d_M_blind_20 : decode c_M_blind 20 = .ok (.iload_n 3, 1) := by decide +kernel
theorem d_M_blind_21 : decode c_M_blind 21 = .ok (.iconst 0, 1) := by decide +kernel
theorem d_M_blind_22 : decode c_M_blind 22 = .ok (.iconst 1, 1) := by decide +kernel
theorem d_M_blind_23 : decode c_M_blind 23 = .ok (.invokestatic 51, 3) := by decide +kernel
theorem d_M_blind_26 : decode c_M_blind 26 = .ok (.ifCond .eq 72, 3) := by decide +kernel
theorem d_M_blind_29 : decode c_M_blind 29 = .ok (.aload_n 0, 1) := by decide +kernel
theorem d_M_blind_30 : decode c_M_blind 30 = .ok (.iload 5, 2) := by decide +kernel
theorem d_M_blind_32 : decode c_M_blind 32 = .ok (.iload_n 1, 1) := by decide +kernel
theorem d_M_blind_33 : decode c_M_blind 33 = .ok (.invokevirtual 138, 3) := by decide +kernel
theorem d_M_blind_36 : decode c_M_blind 36 = .ok (.ifCond .eq 56, 3) := by decide +kernel
theorem d_M_blind_39 : decode c_M_blind 39 = .ok (.iload 5, 2) := by decide +kernel
theorem d_M_blind_41 : decode c_M_blind 41 = .ok (.istore 6, 2) := by decide +kernel
theorem d_M_blind_43 : decode c_M_blind 43 = .ok (.iload 5, 2) := by decide +kernel
theorem d_M_blind_45 : decode c_M_blind 45 = .ok (.iconst 1, 1) := by decide +kernel
theorem d_M_blind_46 : decode c_M_blind 46 = .ok (.iadd, 1) := by decide +kernel
theorem d_M_blind_47 : decode c_M_blind 47 = .ok (.aload_n 0, 1) := by decide +kernel
theorem d_M_blind_48 : decode c_M_blind 48 = .ok (.getfield 44, 3) := by decide +kernel
theorem d_M_blind_51 : decode c_M_blind 51 = .ok (.if_icmp .ge 21, 3) := by decide +kernel
theorem d_M_blind_54 : decode c_M_blind 54 = .ok (.aload_n 0, 1) := by decide +kernel
theorem d_M_blind_55 : decode c_M_blind 55 = .ok (.iload 5, 2) := by decide +kernel
theorem d_M_blind_57 : decode c_M_blind 57 = .ok (.iconst 1, 1) := by decide +kernel
theorem d_M_blind_58 : decode c_M_blind 58 = .ok (.iadd, 1) := by decide +kernel
theorem d_M_blind_59 : decode c_M_blind 59 = .ok (.iload_n 1, 1) := by decide +kernel
theorem d_M_blind_60 : decode c_M_blind 60 = .ok (.invokevirtual 138, 3) := by decide +kernel
theorem d_M_blind_63 : decode c_M_blind 63 = .ok (.ifCond .eq 9, 3) := by decide +kernel
theorem d_M_blind_66 : decode c_M_blind 66 = .ok (.iinc 5 1, 3) := by decide +kernel
theorem d_M_blind_69 : decode c_M_blind 69 = .ok (.goto (-26), 3) := by decide +kernel
theorem d_M_blind_72 : decode c_M_blind 72 = .ok (.iload 4, 2) := by decide +kernel
theorem d_M_blind_74 : decode c_M_blind 74 = .ok (.ifCond .ne 15, 3) := by decide +kernel
theorem d_M_blind_77 : decode c_M_blind 77 = .ok (.iload_n 3, 1) := by decide +kernel
theorem d_M_blind_78 : decode c_M_blind 78 = .ok (.ifCond .ne 8, 3) := by decide +kernel
theorem d_M_blind_81 : decode c_M_blind 81 = .ok (.iload 6, 2) := by decide +kernel
theorem d_M_blind_83 : decode c_M_blind 83 = .ok (.goto 5, 3) := by decide +kernel
theorem d_M_blind_86 : decode c_M_blind 86 = .ok (.iload 5, 2) := by decide +kernel
theorem d_M_blind_88 : decode c_M_blind 88 = .ok (.ireturn, 1) := by decide +kernel
theorem d_M_blind_89 : decode c_M_blind 89 = .ok (.iinc 4 (-1), 3) := by decide +kernel
theorem d_M_blind_92 : decode c_M_blind 92 = .ok (.iinc 5 1, 3) := by decide +kernel
theorem d_M_blind_95 : decode c_M_blind 95 = .ok (.goto (-89), 3) := by decide +kernel
theorem d_M_blind_98 : decode c_M_blind 98 = .ok (.iconst (-1), 1) := by decide +kernel
theorem d_M_blind_99 : decode c_M_blind 99 = .ok (.ireturn, 1) := by decide +kernel
theorem d_M_setBack_0 : decode c_M_setBack 0 = .ok (.aload_n 0, 1) := by decide +kernel
theorem d_M_setBack_1 : decode c_M_setBack 1 = .ok (.iload_n 1, 1) := by decide +kernel
theorem d_M_setBack_2 : decode c_M_setBack 2 = .ok (.invokevirtual 69, 3) := by decide +kernel
theorem d_M_setBack_5 : decode c_M_setBack 5 = .ok (.ifCond .eq 12, 3) := by decide +kernel
theorem d_M_setBack_8 : decode c_M_setBack 8 = .ok (.iload_n 2, 1) := by decide +kernel
theorem d_M_setBack_9 : decode c_M_setBack 9 = .ok (.iconst 0, 1) := by decide +kernel
theorem d_M_setBack_10 : decode c_M_setBack 10 = .ok (.iconst 1, 1) := by decide +kernel
theorem d_M_setBack_11 : decode c_M_setBack 11 = .ok (.invokestatic 51, 3) := by decide +kernel
theorem d_M_setBack_14 : decode c_M_setBack 14 = .ok (.ifCond .ne 5, 3) := by decide +kernel
theorem d_M_setBack_17 : decode c_M_setBack 17 = .ok (.iconst (-1), 1) := by decide +kernel
theorem d_M_setBack_18 : decode c_M_setBack 18 = .ok (.ireturn, 1) := by decide +kernel
theorem d_M_setBack_19 : decode c_M_setBack 19 = .ok (.iconst 0, 1) := by decide +kernel
theorem d_M_setBack_20 : decode c_M_setBack 20 = .ok (.istore_n 3, 1) := by decide +kernel
theorem d_M_setBack_21 : decode c_M_setBack 21 = .ok (.iconst 0, 1) := by decide +kernel
theorem d_M_setBack_22 : decode c_M_setBack 22 = .ok (.istore 4, 2) := by decide +kernel
theorem d_M_setBack_24 : decode c_M_setBack 24 = .ok (.iload 4, 2) := by decide +kernel
theorem d_M_setBack_26 : decode c_M_setBack 26 = .ok (.iload_n 1, 1) := by decide +kernel
theorem d_M_setBack_27 : decode c_M_setBack 27 = .ok (.if_icmp .ge 151, 3) := by decide +kernel
theorem d_M_setBack_30 : decode c_M_setBack 30 = .ok (.aload_n 0, 1) := by decide +kernel
theorem d_M_setBack_31 : decode c_M_setBack 31 = .ok (.iload 4, 2) := by decide +kernel
theorem d_M_setBack_33 : decode c_M_setBack 33 = .ok (.iconst 0, 1) := by decide +kernel
theorem d_M_setBack_34 : decode c_M_setBack 34 = .ok (.aload_n 0, 1) := by decide +kernel
theorem d_M_setBack_35 : decode c_M_setBack 35 = .ok (.getfield 22, 3) := by decide +kernel
theorem d_M_setBack_38 : decode c_M_setBack 38 = .ok (.iload 4, 2) := by decide +kernel
theorem d_M_setBack_40 : decode c_M_setBack 40 = .ok (.iaload, 1) := by decide +kernel
theorem d_M_setBack_41 : decode c_M_setBack 41 = .ok (.invokevirtual 127, 3) := by decide +kernel
theorem d_M_setBack_44 : decode c_M_setBack 44 = .ok (.istore 5, 2) := by decide +kernel
theorem d_M_setBack_46 : decode c_M_setBack 46 = .ok (.iload_n 1, 1) := by decide +kernel
theorem d_M_setBack_47 : decode c_M_setBack 47 = .ok (.iconst 1, 1) := by decide +kernel
theorem d_M_setBack_48 : decode c_M_setBack 48 = .ok (.iadd, 1) := by decide +kernel
theorem d_M_setBack_49 : decode c_M_setBack 49 = .ok (.istore 6, 2) := by decide +kernel
theorem d_M_setBack_51 : decode c_M_setBack 51 = .ok (.iload 6, 2) := by decide +kernel
theorem d_M_setBack_53 : decode c_M_setBack 53 = .ok (.aload_n 0, 1) := by decide +kernel
theorem d_M_setBack_54 : decode c_M_setBack 54 = .ok (.getfield 44, 3) := by decide +kernel
theorem d_M_setBack_57 : decode c_M_setBack 57 = .ok (.if_icmp .ge 115, 3) := by decide +kernel
theorem d_M_setBack_60 : decode c_M_setBack 60 = .ok (.aload_n 0, 1) := by decide +kernel
theorem d_M_setBack_61 : decode c_M_setBack 61 = .ok (.getfield 19, 3) := by decide +kernel
theorem d_M_setBack_64 : decode c_M_setBack 64 = .ok (.iload 6, 2) := by decide +kernel
theorem d_M_setBack_66 : decode c_M_setBack 66 = .ok (.iaload, 1) := by decide +kernel
theorem d_M_setBack_67 : decode c_M_setBack 67 = .ok (.aload_n 0, 1) := by decide +kernel
theorem d_M_setBack_68 : decode c_M_setBack 68 = .ok (.getfield 19, 3) := by decide +kernel
theorem d_M_setBack_71 : decode c_M_setBack 71 = .ok (.iload 4, 2) := by decide +kernel
theorem d_M_setBack_73 : decode c_M_setBack 73 = .ok (.iaload, 1) := by decide +kernel
theorem d_M_setBack_74 : decode c_M_setBack 74 = .ok (.isub, 1) := by decide +kernel
theorem d_M_setBack_75 : decode c_M_setBack 75 = .ok (.iload 5, 2) := by decide +kernel
theorem d_M_setBack_77 : decode c_M_setBack 77 = .ok (.if_icmp .gt 95, 3) := by decide +kernel
theorem d_M_setBack_80 : decode c_M_setBack 80 = .ok (.aload_n 0, 1) := by decide +kernel
theorem d_M_setBack_81 : decode c_M_setBack 81 = .ok (.iload 4, 2) := by decide +kernel
theorem d_M_setBack_83 : decode c_M_setBack 83 = .ok (.iload 6, 2) := by decide +kernel
theorem d_M_setBack_85 : decode c_M_setBack 85 = .ok (.iload_n 1, 1) := by decide +kernel
theorem d_M_setBack_86 : decode c_M_setBack 86 = .ok (.invokevirtual 76, 3) := by decide +kernel
theorem d_M_setBack_89 : decode c_M_setBack 89 = .ok (.lstore 7, 2) := by decide +kernel
theorem d_M_setBack_91 : decode c_M_setBack 91 = .ok (.iload_n 2, 1) := by decide +kernel
theorem d_M_setBack_92 : decode c_M_setBack 92 = .ok (.iconst 1, 1) := by decide +kernel
theorem d_M_setBack_93 : decode c_M_setBack 93 = .ok (.if_icmp .ne 18, 3) := by decide +kernel
theorem d_M_setBack_96 : decode c_M_setBack 96 = .ok (.lload 7, 2) := by decide +kernel
theorem d_M_setBack_98 : decode c_M_setBack 98 = .ok (.lconst 0, 1) := by decide +kernel
theorem d_M_setBack_99 : decode c_M_setBack 99 = .ok (.lcmp, 1) := by decide +kernel
theorem d_M_setBack_100 : decode c_M_setBack 100 = .ok (.ifCond .le 7, 3) := by decide +kernel
theorem d_M_setBack_103 : decode c_M_setBack 103 = .ok (.iconst 1, 1) := by decide +kernel
theorem d_M_setBack_104 : decode c_M_setBack 104 = .ok (.goto 19, 3) := by decide +kernel
theorem d_M_setBack_107 : decode c_M_setBack 107 = .ok (.iconst 0, 1) := by decide +kernel
theorem d_M_setBack_108 : decode c_M_setBack 108 = .ok (.goto 15, 3) := by decide +kernel
theorem d_M_setBack_111 : decode c_M_setBack 111 = .ok (.lload 7, 2) := by decide +kernel
theorem d_M_setBack_113 : decode c_M_setBack 113 = .ok (.lconst 0, 1) := by decide +kernel
theorem d_M_setBack_114 : decode c_M_setBack 114 = .ok (.lcmp, 1) := by decide +kernel
theorem d_M_setBack_115 : decode c_M_setBack 115 = .ok (.ifCond .ge 7, 3) := by decide +kernel
theorem d_M_setBack_118 : decode c_M_setBack 118 = .ok (.iconst 1, 1) := by decide +kernel
theorem d_M_setBack_119 : decode c_M_setBack 119 = .ok (.goto 4, 3) := by decide +kernel
theorem d_M_setBack_122 : decode c_M_setBack 122 = .ok (.iconst 0, 1) := by decide +kernel
theorem d_M_setBack_123 : decode c_M_setBack 123 = .ok (.istore 9, 2) := by decide +kernel
theorem d_M_setBack_125 : decode c_M_setBack 125 = .ok (.iload 9, 2) := by decide +kernel
theorem d_M_setBack_127 : decode c_M_setBack 127 = .ok (.ifCond .eq 39, 3) := by decide +kernel
theorem d_M_setBack_130 : decode c_M_setBack 130 = .ok (.iload_n 3, 1) := by decide +kernel
theorem d_M_setBack_131 : decode c_M_setBack 131 = .ok (.sipush 1000, 3) := by decide +kernel
theorem d_M_setBack_134 : decode c_M_setBack 134 = .ok (.if_icmp .gt 32, 3) := by decide +kernel
theorem d_M_setBack_137 : decode c_M_setBack 137 = .ok (.lload 7, 2) := by decide +kernel
theorem d_M_setBack_139 : decode c_M_setBack 139 = .ok (.invokestatic 61, 3) := by decide +kernel
theorem d_M_setBack_142 : decode c_M_setBack 142 = .ok (.iload_n 3, 1) := by decide +kernel
theorem d_M_setBack_143 : decode c_M_setBack 143 = .ok (.i2l, 1) := by decide +kernel
theorem d_M_setBack_144 : decode c_M_setBack 144 = .ok (.invokestatic 61, 3) := by decide +kernel
theorem d_M_setBack_147 : decode c_M_setBack 147 = .ok (.aload_n 0, 1) := by decide +kernel
theorem d_M_setBack_148 : decode c_M_setBack 148 = .ok (.iload 4, 2) := by decide +kernel
theorem d_M_setBack_150 : decode c_M_setBack 150 = .ok (.iload 6, 2) := by decide +kernel
theorem d_M_setBack_152 : decode c_M_setBack 152 = .ok (.invokevirtual 80, 3) := by decide +kernel
theorem d_M_setBack_155 : decode c_M_setBack 155 = .ok (.lmul, 1) := by decide +kernel
theorem d_M_setBack_156 : decode c_M_setBack 156 = .ok (.lcmp, 1) := by decide +kernel
theorem d_M_setBack_157 : decode c_M_setBack 157 = .ok (.ifCond .le 9, 3) := by decide +kernel
theorem d_M_setBack_160 : decode c_M_setBack 160 = .ok (.iinc 3 1, 3) := by decide +kernel
theorem d_M_setBack_163 : decode c_M_setBack 163 = .ok (.goto (-38), 3) := by decide +kernel
theorem d_M_setBack_166 : decode c_M_setBack 166 = .ok (.iinc 6 1, 3) := by decide +kernel
theorem d_M_setBack_169 : decode c_M_setBack 169 = .ok (.goto (-118), 3) := by decide +kernel
theorem d_M_setBack_172 : decode c_M_setBack 172 = .ok (.iinc 4 1, 3) := by decide +kernel
theorem d_M_setBack_175 : decode c_M_setBack 175 = .ok (.goto (-151), 3) := by decide +kernel
theorem d_M_setBack_178 : decode c_M_setBack 178 = .ok (.iload_n 3, 1) := by decide +kernel
theorem d_M_setBack_179 : decode c_M_setBack 179 = .ok (.sipush 1000, 3) := by decide +kernel
theorem d_M_setBack_182 : decode c_M_setBack 182 = .ok (.if_icmp .le 7, 3) := by decide +kernel
theorem d_M_setBack_185 : decode c_M_setBack 185 = .ok (.iconst (-1), 1) := by decide +kernel
theorem d_M_setBack_186 : decode c_M_setBack 186 = .ok (.goto 4, 3) := by decide +kernel
theorem d_M_setBack_189 : decode c_M_setBack 189 = .ok (.iload_n 3, 1) := by decide +kernel
theorem d_M_setBack_190 : decode c_M_setBack 190 = .ok (.ireturn, 1) := by decide +kernel
theorem d_M_allowed_0 : decode c_M_allowed 0 = .ok (.aload_n 0, 1) := by decide +kernel
theorem d_M_allowed_1 : decode c_M_allowed 1 = .ok (.iload_n 1, 1) := by decide +kernel
theorem d_M_allowed_2 : decode c_M_allowed 2 = .ok (.invokevirtual 69, 3) := by decide +kernel
theorem d_M_allowed_5 : decode c_M_allowed 5 = .ok (.ifCond .ne 5, 3) := by decide +kernel
theorem d_M_allowed_8 : decode c_M_allowed 8 = .ok (.iconst (-1), 1) := by decide +kernel
theorem d_M_allowed_9 : decode c_M_allowed 9 = .ok (.ireturn, 1) := by decide +kernel
theorem d_M_allowed_10 : decode c_M_allowed 10 = .ok (.aload_n 0, 1) := by decide +kernel
theorem d_M_allowed_11 : decode c_M_allowed 11 = .ok (.iload_n 1, 1) := by decide +kernel
theorem d_M_allowed_12 : decode c_M_allowed 12 = .ok (.iload_n 2, 1) := by decide +kernel
theorem d_M_allowed_13 : decode c_M_allowed 13 = .ok (.invokevirtual 135, 3) := by decide +kernel
theorem d_M_allowed_16 : decode c_M_allowed 16 = .ok (.istore_n 3, 1) := by decide +kernel
theorem d_M_allowed_17 : decode c_M_allowed 17 = .ok (.sipush 130, 3) := by decide +kernel
theorem d_M_allowed_20 : decode c_M_allowed 20 = .ok (.istore 4, 2) := by decide +kernel
theorem d_M_allowed_22 : decode c_M_allowed 22 = .ok (.iload 4, 2) := by decide +kernel
theorem d_M_allowed_24 : decode c_M_allowed 24 = .ok (.ifCond .le 39, 3) := by decide +kernel
theorem d_M_allowed_27 : decode c_M_allowed 27 = .ok (.aload_n 0, 1) := by decide +kernel
theorem d_M_allowed_28 : decode c_M_allowed 28 = .ok (.iload_n 1, 1) := by decide +kernel
theorem d_M_allowed_29 : decode c_M_allowed 29 = .ok (.iload_n 2, 1) := by decide +kernel
theorem d_M_allowed_30 : decode c_M_allowed 30 = .ok (.iload 4, 2) := by decide +kernel
theorem d_M_allowed_32 : decode c_M_allowed 32 = .ok (.invokevirtual 127, 3) := by decide +kernel
theorem d_M_allowed_35 : decode c_M_allowed 35 = .ok (.istore 5, 2) := by decide +kernel
theorem d_M_allowed_37 : decode c_M_allowed 37 = .ok (.iload 5, 2) := by decide +kernel
theorem d_M_allowed_39 : decode c_M_allowed 39 = .ok (.iload_n 3, 1) := by decide +kernel
theorem d_M_allowed_40 : decode c_M_allowed 40 = .ok (.if_icmp .le 14, 3) := by decide +kernel
theorem d_M_allowed_43 : decode c_M_allowed 43 = .ok (.aload_n 0, 1) := by decide +kernel
theorem d_M_allowed_44 : decode c_M_allowed 44 = .ok (.iload_n 1, 1) := by decide +kernel
theorem d_M_allowed_45 : decode c_M_allowed 45 = .ok (.iload_n 2, 1) := by decide +kernel
theorem d_M_allowed_46 : decode c_M_allowed 46 = .ok (.invokevirtual 131, 3) := by decide +kernel
theorem d_M_allowed_49 : decode c_M_allowed 49 = .ok (.iload 5, 2) := by decide +kernel
theorem d_M_allowed_51 : decode c_M_allowed 51 = .ok (.if_icmp .ge 6, 3) := by decide +kernel
theorem d_M_allowed_54 : decode c_M_allowed 54 = .ok (.iload 4, 2) := by decide +kernel
theorem d_M_allowed_56 : decode c_M_allowed 56 = .ok (.ireturn, 1) := by decide +kernel
theorem d_M_allowed_57 : decode c_M_allowed 57 = .ok (.iinc 4 (-5), 3) := by decide +kernel
theorem d_M_allowed_60 : decode c_M_allowed 60 = .ok (.goto (-38), 3) := by decide +kernel
theorem d_M_allowed_63 : decode c_M_allowed 63 = .ok (.iconst 0, 1) := by decide +kernel
theorem d_M_allowed_64 : decode c_M_allowed 64 = .ok (.ireturn, 1) := by decide +kernel
theorem d_M_overtake_0 : decode c_M_overtake 0 = .ok (.iload_n 1, 1) := by decide +kernel
theorem d_M_overtake_1 : decode c_M_overtake 1 = .ok (.iconst 1, 1) := by decide +kernel
theorem d_M_overtake_2 : decode c_M_overtake 2 = .ok (.ldc 142, 2) := by decide +kernel
theorem d_M_overtake_4 : decode c_M_overtake 4 = .ok (.invokestatic 51, 3) := by decide +kernel
theorem d_M_overtake_7 : decode c_M_overtake 7 = .ok (.ifCond .ne 5, 3) := by decide +kernel
theorem d_M_overtake_10 : decode c_M_overtake 10 = .ok (.iconst (-1), 1) := by decide +kernel
theorem d_M_overtake_11 : decode c_M_overtake 11 = .ok (.ireturn, 1) := by decide +kernel
theorem d_M_overtake_12 : decode c_M_overtake 12 = .ok (.iconst 0, 1) := by decide +kernel
theorem d_M_overtake_13 : decode c_M_overtake 13 = .ok (.istore_n 2, 1) := by decide +kernel
theorem d_M_overtake_14 : decode c_M_overtake 14 = .ok (.iconst 0, 1) := by decide +kernel
theorem d_M_overtake_15 : decode c_M_overtake 15 = .ok (.istore_n 3, 1) := by decide +kernel
theorem d_M_overtake_16 : decode c_M_overtake 16 = .ok (.iconst 0, 1) := by decide +kernel
theorem d_M_overtake_17 : decode c_M_overtake 17 = .ok (.istore 4, 2) := by decide +kernel
theorem d_M_overtake_19 : decode c_M_overtake 19 = .ok (.iload 4, 2) := by decide +kernel
theorem d_M_overtake_21 : decode c_M_overtake 21 = .ok (.aload_n 0, 1) := by decide +kernel
theorem d_M_overtake_22 : decode c_M_overtake 22 = .ok (.getfield 44, 3) := by decide +kernel
theorem d_M_overtake_25 : decode c_M_overtake 25 = .ok (.if_icmp .ge 79, 3) := by decide +kernel
theorem d_M_overtake_28 : decode c_M_overtake 28 = .ok (.aload_n 0, 1) := by decide +kernel
theorem d_M_overtake_29 : decode c_M_overtake 29 = .ok (.iload 4, 2) := by decide +kernel
theorem d_M_overtake_31 : decode c_M_overtake 31 = .ok (.iconst 0, 1) := by decide +kernel
theorem d_M_overtake_32 : decode c_M_overtake 32 = .ok (.invokevirtual 135, 3) := by decide +kernel
theorem d_M_overtake_35 : decode c_M_overtake 35 = .ok (.iload_n 1, 1) := by decide +kernel
theorem d_M_overtake_36 : decode c_M_overtake 36 = .ok (.if_icmp .lt 7, 3) := by decide +kernel
theorem d_M_overtake_39 : decode c_M_overtake 39 = .ok (.iconst 1, 1) := by decide +kernel
theorem d_M_overtake_40 : decode c_M_overtake 40 = .ok (.goto 4, 3) := by decide +kernel
theorem d_M_overtake_43 : decode c_M_overtake 43 = .ok (.iconst 0, 1) := by decide +kernel
theorem d_M_overtake_44 : decode c_M_overtake 44 = .ok (.istore 5, 2) := by decide +kernel
theorem d_M_overtake_46 : decode c_M_overtake 46 = .ok (.iload 5, 2) := by decide +kernel
theorem d_M_overtake_48 : decode c_M_overtake 48 = .ok (.ifCond .eq 7, 3) := by decide +kernel
theorem d_M_overtake_51 : decode c_M_overtake 51 = .ok (.iload_n 3, 1) := by decide +kernel
theorem d_M_overtake_52 : decode c_M_overtake 52 = .ok (.goto 7, 3) := by decide +kernel
theorem d_M_overtake_55 : decode c_M_overtake 55 = .ok (.iload 4, 2) := by decide +kernel
theorem d_M_overtake_57 : decode c_M_overtake 57 = .ok (.iconst 1, 1) := by decide +kernel
theorem d_M_overtake_58 : decode c_M_overtake 58 = .ok (.iadd, 1) := by decide +kernel
theorem d_M_overtake_59 : decode c_M_overtake 59 = .ok (.istore_n 3, 1) := by decide +kernel
theorem d_M_overtake_60 : decode c_M_overtake 60 = .ok (.iload 5, 2) := by decide +kernel
theorem d_M_overtake_62 : decode c_M_overtake 62 = .ok (.ifCond .eq 20, 3) := by decide +kernel
theorem d_M_overtake_65 : decode c_M_overtake 65 = .ok (.aload_n 0, 1) := by decide +kernel
theorem d_M_overtake_66 : decode c_M_overtake 66 = .ok (.getfield 19, 3) := by decide +kernel
theorem d_M_overtake_69 : decode c_M_overtake 69 = .ok (.iload 4, 2) := by decide +kernel
theorem d_M_overtake_71 : decode c_M_overtake 71 = .ok (.iaload, 1) := by decide +kernel
theorem d_M_overtake_72 : decode c_M_overtake 72 = .ok (.aload_n 0, 1) := by decide +kernel
theorem d_M_overtake_73 : decode c_M_overtake 73 = .ok (.getfield 19, 3) := by decide +kernel
theorem d_M_overtake_76 : decode c_M_overtake 76 = .ok (.iload_n 3, 1) := by decide +kernel
theorem d_M_overtake_77 : decode c_M_overtake 77 = .ok (.iaload, 1) := by decide +kernel
theorem d_M_overtake_78 : decode c_M_overtake 78 = .ok (.isub, 1) := by decide +kernel
theorem d_M_overtake_79 : decode c_M_overtake 79 = .ok (.goto 4, 3) := by decide +kernel
theorem d_M_overtake_82 : decode c_M_overtake 82 = .ok (.iconst 0, 1) := by decide +kernel
theorem d_M_overtake_83 : decode c_M_overtake 83 = .ok (.istore 6, 2) := by decide +kernel
theorem d_M_overtake_85 : decode c_M_overtake 85 = .ok (.iload 6, 2) := by decide +kernel
theorem d_M_overtake_87 : decode c_M_overtake 87 = .ok (.iload_n 2, 1) := by decide +kernel
theorem d_M_overtake_88 : decode c_M_overtake 88 = .ok (.if_icmp .le 8, 3) := by decide +kernel
theorem d_M_overtake_91 : decode c_M_overtake 91 = .ok (.iload 6, 2) := by decide +kernel
theorem d_M_overtake_93 : decode c_M_overtake 93 = .ok (.goto 4, 3) := by decide +kernel
theorem d_M_overtake_96 : decode c_M_overtake 96 = .ok (.iload_n 2, 1) := by decide +kernel
theorem d_M_overtake_97 : decode c_M_overtake 97 = .ok (.istore_n 2, 1) := by decide +kernel
theorem d_M_overtake_98 : decode c_M_overtake 98 = .ok (.iinc 4 1, 3) := by decide +kernel
theorem d_M_overtake_101 : decode c_M_overtake 101 = .ok (.goto (-82), 3) := by decide +kernel
theorem d_M_overtake_104 : decode c_M_overtake 104 = .ok (.iload_n 2, 1) := by decide +kernel
theorem d_M_overtake_105 : decode c_M_overtake 105 = .ok (.ireturn, 1) := by decide +kernel
theorem d_M_seen_0 : decode c_M_seen 0 = .ok (.iload_n 1, 1) := by decide +kernel
theorem d_M_seen_1 : decode c_M_seen 1 = .ok (.iload_n 2, 1) := by decide +kernel
theorem d_M_seen_2 : decode c_M_seen 2 = .ok (.invokestatic 55, 3) := by decide +kernel
theorem d_M_seen_5 : decode c_M_seen 5 = .ok (.ifCond .eq 14, 3) := by decide +kernel
theorem d_M_seen_8 : decode c_M_seen 8 = .ok (.iload_n 3, 1) := by decide +kernel
theorem d_M_seen_9 : decode c_M_seen 9 = .ok (.ldc 59, 2) := by decide +kernel
theorem d_M_seen_11 : decode c_M_seen 11 = .ok (.ldc 60, 2) := by decide +kernel
theorem d_M_seen_13 : decode c_M_seen 13 = .ok (.invokestatic 51, 3) := by decide +kernel
theorem d_M_seen_16 : decode c_M_seen 16 = .ok (.ifCond .ne 5, 3) := by decide +kernel
theorem d_M_seen_19 : decode c_M_seen 19 = .ok (.iconst (-1), 1) := by decide +kernel
theorem d_M_seen_20 : decode c_M_seen 20 = .ok (.ireturn, 1) := by decide +kernel
theorem d_M_seen_21 : decode c_M_seen 21 = .ok (.iconst 0, 1) := by decide +kernel
theorem d_M_seen_22 : decode c_M_seen 22 = .ok (.istore 4, 2) := by decide +kernel
theorem d_M_seen_24 : decode c_M_seen 24 = .ok (.iconst 0, 1) := by decide +kernel
theorem d_M_seen_25 : decode c_M_seen 25 = .ok (.istore 5, 2) := by decide +kernel
theorem d_M_seen_27 : decode c_M_seen 27 = .ok (.iload 5, 2) := by decide +kernel
theorem d_M_seen_29 : decode c_M_seen 29 = .ok (.aload_n 0, 1) := by decide +kernel
theorem d_M_seen_30 : decode c_M_seen 30 = .ok (.getfield 44, 3) := by decide +kernel
theorem d_M_seen_33 : decode c_M_seen 33 = .ok (.if_icmp .ge 133, 3) := by decide +kernel
theorem d_M_seen_36 : decode c_M_seen 36 = .ok (.iload_n 1, 1) := by decide +kernel
theorem d_M_seen_37 : decode c_M_seen 37 = .ok (.aload_n 0, 1) := by decide +kernel
theorem d_M_seen_38 : decode c_M_seen 38 = .ok (.getfield 7, 3) := by decide +kernel
theorem d_M_seen_41 : decode c_M_seen 41 = .ok (.iload 5, 2) := by decide +kernel
theorem d_M_seen_43 : decode c_M_seen 43 = .ok (.iaload, 1) := by decide +kernel
theorem d_M_seen_44 : decode c_M_seen 44 = .ok (.isub, 1) := by decide +kernel
theorem d_M_seen_45 : decode c_M_seen 45 = .ok (.i2l, 1) := by decide +kernel
theorem d_M_seen_46 : decode c_M_seen 46 = .ok (.invokestatic 61, 3) := by decide +kernel
theorem d_M_seen_49 : decode c_M_seen 49 = .ok (.iload_n 2, 1) := by decide +kernel
theorem d_M_seen_50 : decode c_M_seen 50 = .ok (.aload_n 0, 1) := by decide +kernel
theorem d_M_seen_51 : decode c_M_seen 51 = .ok (.getfield 13, 3) := by decide +kernel
theorem d_M_seen_54 : decode c_M_seen 54 = .ok (.iload 5, 2) := by decide +kernel
theorem d_M_seen_56 : decode c_M_seen 56 = .ok (.iaload, 1) := by decide +kernel
theorem d_M_seen_57 : decode c_M_seen 57 = .ok (.isub, 1) := by decide +kernel
theorem d_M_seen_58 : decode c_M_seen 58 = .ok (.i2l, 1) := by decide +kernel
theorem d_M_seen_59 : decode c_M_seen 59 = .ok (.invokestatic 61, 3) := by decide +kernel
theorem d_M_seen_62 : decode c_M_seen 62 = .ok (.ladd, 1) := by decide +kernel
theorem d_M_seen_63 : decode c_M_seen 63 = .ok (.ldc2_w 143, 3) := by decide +kernel
theorem d_M_seen_66 : decode c_M_seen 66 = .ok (.lcmp, 1) := by decide +kernel
theorem d_M_seen_67 : decode c_M_seen 67 = .ok (.ifCond .gt 7, 3) := by decide +kernel
theorem d_M_seen_70 : decode c_M_seen 70 = .ok (.iconst 1, 1) := by decide +kernel
theorem d_M_seen_71 : decode c_M_seen 71 = .ok (.goto 4, 3) := by decide +kernel
theorem d_M_seen_74 : decode c_M_seen 74 = .ok (.iconst 0, 1) := by decide +kernel
theorem d_M_seen_75 : decode c_M_seen 75 = .ok (.istore 6, 2) := by decide +kernel
theorem d_M_seen_77 : decode c_M_seen 77 = .ok (.iconst 0, 1) := by decide +kernel
theorem d_M_seen_78 : decode c_M_seen 78 = .ok (.istore 7, 2) := by decide +kernel
theorem d_M_seen_80 : decode c_M_seen 80 = .ok (.iload 7, 2) := by decide +kernel
theorem d_M_seen_82 : decode c_M_seen 82 = .ok (.aload_n 0, 1) := by decide +kernel
theorem d_M_seen_83 : decode c_M_seen 83 = .ok (.getfield 73, 3) := by decide +kernel
theorem d_M_seen_86 : decode c_M_seen 86 = .ok (.if_icmp .ge 59, 3) := by decide +kernel
theorem d_M_seen_89 : decode c_M_seen 89 = .ok (.iload 6, 2) := by decide +kernel
theorem d_M_seen_91 : decode c_M_seen 91 = .ok (.ifCond .eq 54, 3) := by decide +kernel
theorem d_M_seen_94 : decode c_M_seen 94 = .ok (.aload_n 0, 1) := by decide +kernel
theorem d_M_seen_95 : decode c_M_seen 95 = .ok (.iload 7, 2) := by decide +kernel
theorem d_M_seen_97 : decode c_M_seen 97 = .ok (.aload_n 0, 1) := by decide +kernel
theorem d_M_seen_98 : decode c_M_seen 98 = .ok (.getfield 7, 3) := by decide +kernel
theorem d_M_seen_101 : decode c_M_seen 101 = .ok (.iload 5, 2) := by decide +kernel
theorem d_M_seen_103 : decode c_M_seen 103 = .ok (.iaload, 1) := by decide +kernel
theorem d_M_seen_104 : decode c_M_seen 104 = .ok (.aload_n 0, 1) := by decide +kernel
theorem d_M_seen_105 : decode c_M_seen 105 = .ok (.getfield 13, 3) := by decide +kernel
theorem d_M_seen_108 : decode c_M_seen 108 = .ok (.iload 5, 2) := by decide +kernel
theorem d_M_seen_110 : decode c_M_seen 110 = .ok (.iaload, 1) := by decide +kernel
theorem d_M_seen_111 : decode c_M_seen 111 = .ok (.aload_n 0, 1) := by decide +kernel
theorem d_M_seen_112 : decode c_M_seen 112 = .ok (.getfield 16, 3) := by decide +kernel
theorem d_M_seen_115 : decode c_M_seen 115 = .ok (.iload 5, 2) := by decide +kernel
theorem d_M_seen_117 : decode c_M_seen 117 = .ok (.iaload, 1) := by decide +kernel
theorem d_M_seen_118 : decode c_M_seen 118 = .ok (.aload_n 0, 1) := by decide +kernel
theorem d_M_seen_119 : decode c_M_seen 119 = .ok (.getfield 31, 3) := by decide +kernel
theorem d_M_seen_122 : decode c_M_seen 122 = .ok (.iadd, 1) := by decide +kernel
theorem d_M_seen_123 : decode c_M_seen 123 = .ok (.iload_n 1, 1) := by decide +kernel
theorem d_M_seen_124 : decode c_M_seen 124 = .ok (.iload_n 2, 1) := by decide +kernel
theorem d_M_seen_125 : decode c_M_seen 125 = .ok (.iload_n 3, 1) := by decide +kernel
theorem d_M_seen_126 : decode c_M_seen 126 = .ok (.invokevirtual 111, 3) := by decide +kernel
theorem d_M_seen_129 : decode c_M_seen 129 = .ok (.ifCond .ne 7, 3) := by decide +kernel
theorem d_M_seen_132 : decode c_M_seen 132 = .ok (.iconst 1, 1) := by decide +kernel
theorem d_M_seen_133 : decode c_M_seen 133 = .ok (.goto 4, 3) := by decide +kernel
theorem d_M_seen_136 : decode c_M_seen 136 = .ok (.iconst 0, 1) := by decide +kernel
theorem d_M_seen_137 : decode c_M_seen 137 = .ok (.istore 6, 2) := by decide +kernel
theorem d_M_seen_139 : decode c_M_seen 139 = .ok (.iinc 7 1, 3) := by decide +kernel
theorem d_M_seen_142 : decode c_M_seen 142 = .ok (.goto (-62), 3) := by decide +kernel
theorem d_M_seen_145 : decode c_M_seen 145 = .ok (.iload 4, 2) := by decide +kernel
theorem d_M_seen_147 : decode c_M_seen 147 = .ok (.iload 6, 2) := by decide +kernel
theorem d_M_seen_149 : decode c_M_seen 149 = .ok (.ifCond .eq 7, 3) := by decide +kernel
theorem d_M_seen_152 : decode c_M_seen 152 = .ok (.iconst 1, 1) := by decide +kernel
theorem d_M_seen_153 : decode c_M_seen 153 = .ok (.goto 4, 3) := by decide +kernel
theorem d_M_seen_156 : decode c_M_seen 156 = .ok (.iconst 0, 1) := by decide +kernel
theorem d_M_seen_157 : decode c_M_seen 157 = .ok (.iadd, 1) := by decide +kernel
theorem d_M_seen_158 : decode c_M_seen 158 = .ok (.istore 4, 2) := by decide +kernel
theorem d_M_seen_160 : decode c_M_seen 160 = .ok (.iinc 5 1, 3) := by decide +kernel
theorem d_M_seen_163 : decode c_M_seen 163 = .ok (.goto (-136), 3) := by decide +kernel
theorem d_M_seen_166 : decode c_M_seen 166 = .ok (.iload 4, 2) := by decide +kernel
theorem d_M_seen_168 : decode c_M_seen 168 = .ok (.ireturn, 1) := by decide +kernel
theorem d_M_light_0 : decode c_M_light 0 = .ok (.aload_n 0, 1) := by decide +kernel
theorem d_M_light_1 : decode c_M_light 1 = .ok (.iload_n 1, 1) := by decide +kernel
theorem d_M_light_2 : decode c_M_light 2 = .ok (.invokevirtual 69, 3) := by decide +kernel
theorem d_M_light_5 : decode c_M_light 5 = .ok (.ifCond .eq 24, 3) := by decide +kernel
theorem d_M_light_8 : decode c_M_light 8 = .ok (.iload_n 2, 1) := by decide +kernel
theorem d_M_light_9 : decode c_M_light 9 = .ok (.iconst 0, 1) := by decide +kernel
theorem d_M_light_10 : decode c_M_light 10 = .ok (.sipush 1000, 3) := by decide +kernel
theorem d_M_light_13 : decode c_M_light 13 = .ok (.invokestatic 51, 3) := by decide +kernel
theorem d_M_light_16 : decode c_M_light 16 = .ok (.ifCond .eq 13, 3) := by decide +kernel
theorem d_M_light_19 : decode c_M_light 19 = .ok (.iload_n 3, 1) := by decide +kernel
theorem d_M_light_20 : decode c_M_light 20 = .ok (.iconst 0, 1) := by decide +kernel
theorem d_M_light_21 : decode c_M_light 21 = .ok (.bipush 100, 2) := by decide +kernel
theorem d_M_light_23 : decode c_M_light 23 = .ok (.invokestatic 51, 3) := by decide +kernel
theorem d_M_light_26 : decode c_M_light 26 = .ok (.ifCond .ne 5, 3) := by decide +kernel
theorem d_M_light_29 : decode c_M_light 29 = .ok (.iconst (-1), 1) := by decide +kernel
theorem d_M_light_30 : decode c_M_light 30 = .ok (.ireturn, 1) := by decide +kernel
theorem d_M_light_31 : decode c_M_light 31 = .ok (.iload_n 1, 1) := by decide +kernel
theorem d_M_light_32 : decode c_M_light 32 = .ok (.istore 4, 2) := by decide +kernel
theorem d_M_light_34 : decode c_M_light 34 = .ok (.iload 4, 2) := by decide +kernel
theorem d_M_light_36 : decode c_M_light 36 = .ok (.iconst 1, 1) := by decide +kernel
theorem d_M_light_37 : decode c_M_light 37 = .ok (.iadd, 1) := by decide +kernel
theorem d_M_light_38 : decode c_M_light 38 = .ok (.aload_n 0, 1) := by decide +kernel
theorem d_M_light_39 : decode c_M_light 39 = .ok (.getfield 44, 3) := by decide +kernel
theorem d_M_light_42 : decode c_M_light 42 = .ok (.if_icmp .ge 51, 3) := by decide +kernel
theorem d_M_light_45 : decode c_M_light 45 = .ok (.aload_n 0, 1) := by decide +kernel
theorem d_M_light_46 : decode c_M_light 46 = .ok (.getfield 16, 3) := by decide +kernel
theorem d_M_light_49 : decode c_M_light 49 = .ok (.iload 4, 2) := by decide +kernel
theorem d_M_light_51 : decode c_M_light 51 = .ok (.iconst 1, 1) := by decide +kernel
theorem d_M_light_52 : decode c_M_light 52 = .ok (.iadd, 1) := by decide +kernel
theorem d_M_light_53 : decode c_M_light 53 = .ok (.iaload, 1) := by decide +kernel
theorem d_M_light_54 : decode c_M_light 54 = .ok (.aload_n 0, 1) := by decide +kernel
theorem d_M_light_55 : decode c_M_light 55 = .ok (.getfield 16, 3) := by decide +kernel
theorem d_M_light_58 : decode c_M_light 58 = .ok (.iload_n 1, 1) := by decide +kernel
theorem d_M_light_59 : decode c_M_light 59 = .ok (.iaload, 1) := by decide +kernel
theorem d_M_light_60 : decode c_M_light 60 = .ok (.iload_n 2, 1) := by decide +kernel
theorem d_M_light_61 : decode c_M_light 61 = .ok (.iadd, 1) := by decide +kernel
theorem d_M_light_62 : decode c_M_light 62 = .ok (.iload_n 3, 1) := by decide +kernel
theorem d_M_light_63 : decode c_M_light 63 = .ok (.aload_n 0, 1) := by decide +kernel
theorem d_M_light_64 : decode c_M_light 64 = .ok (.getfield 19, 3) := by decide +kernel
theorem d_M_light_67 : decode c_M_light 67 = .ok (.iload 4, 2) := by decide +kernel
theorem d_M_light_69 : decode c_M_light 69 = .ok (.iconst 1, 1) := by decide +kernel
theorem d_M_light_70 : decode c_M_light 70 = .ok (.iadd, 1) := by decide +kernel
theorem d_M_light_71 : decode c_M_light 71 = .ok (.iaload, 1) := by decide +kernel
theorem d_M_light_72 : decode c_M_light 72 = .ok (.aload_n 0, 1) := by decide +kernel
theorem d_M_light_73 : decode c_M_light 73 = .ok (.getfield 19, 3) := by decide +kernel
theorem d_M_light_76 : decode c_M_light 76 = .ok (.iload_n 1, 1) := by decide +kernel
theorem d_M_light_77 : decode c_M_light 77 = .ok (.iaload, 1) := by decide +kernel
theorem d_M_light_78 : decode c_M_light 78 = .ok (.isub, 1) := by decide +kernel
theorem d_M_light_79 : decode c_M_light 79 = .ok (.imul, 1) := by decide +kernel
theorem d_M_light_80 : decode c_M_light 80 = .ok (.bipush 100, 2) := by decide +kernel
theorem d_M_light_82 : decode c_M_light 82 = .ok (.idiv, 1) := by decide +kernel
theorem d_M_light_83 : decode c_M_light 83 = .ok (.iadd, 1) := by decide +kernel
theorem d_M_light_84 : decode c_M_light 84 = .ok (.if_icmp .gt 9, 3) := by decide +kernel
theorem d_M_light_87 : decode c_M_light 87 = .ok (.iinc 4 1, 3) := by decide +kernel
theorem d_M_light_90 : decode c_M_light 90 = .ok (.goto (-56), 3) := by decide +kernel
theorem d_M_light_93 : decode c_M_light 93 = .ok (.aload_n 0, 1) := by decide +kernel
theorem d_M_light_94 : decode c_M_light 94 = .ok (.getfield 19, 3) := by decide +kernel
theorem d_M_light_97 : decode c_M_light 97 = .ok (.iload 4, 2) := by decide +kernel
theorem d_M_light_99 : decode c_M_light 99 = .ok (.iaload, 1) := by decide +kernel
theorem d_M_light_100 : decode c_M_light 100 = .ok (.aload_n 0, 1) := by decide +kernel
theorem d_M_light_101 : decode c_M_light 101 = .ok (.getfield 19, 3) := by decide +kernel
theorem d_M_light_104 : decode c_M_light 104 = .ok (.iload_n 1, 1) := by decide +kernel
theorem d_M_light_105 : decode c_M_light 105 = .ok (.iaload, 1) := by decide +kernel
theorem d_M_light_106 : decode c_M_light 106 = .ok (.isub, 1) := by decide +kernel
theorem d_M_light_107 : decode c_M_light 107 = .ok (.ireturn, 1) := by decide +kernel
theorem d_M_count_0 : decode c_M_count 0 = .ok (.iconst 0, 1) := by decide +kernel
theorem d_M_count_1 : decode c_M_count 1 = .ok (.istore_n 2, 1) := by decide +kernel
theorem d_M_count_2 : decode c_M_count 2 = .ok (.iload_n 1, 1) := by decide +kernel
theorem d_M_count_3 : decode c_M_count 3 = .ok (.tableswitch 179 0 5 #[37, 42, 47, 84, 135, 135], 37) := by decide +kernel
theorem d_M_count_40 : decode c_M_count 40 = .ok (.aload_n 0, 1) := by decide +kernel
theorem d_M_count_41 : decode c_M_count 41 = .ok (.getfield 44, 3) := by decide +kernel
theorem d_M_count_44 : decode c_M_count 44 = .ok (.ireturn, 1) := by decide +kernel
theorem d_M_count_45 : decode c_M_count 45 = .ok (.aload_n 0, 1) := by decide +kernel
theorem d_M_count_46 : decode c_M_count 46 = .ok (.getfield 73, 3) := by decide +kernel
theorem d_M_count_49 : decode c_M_count 49 = .ok (.ireturn, 1) := by decide +kernel
theorem d_M_count_50 : decode c_M_count 50 = .ok (.iconst 0, 1) := by decide +kernel
theorem d_M_count_51 : decode c_M_count 51 = .ok (.istore_n 3, 1) := by decide +kernel
theorem d_M_count_52 : decode c_M_count 52 = .ok (.iload_n 3, 1) := by decide +kernel
theorem d_M_count_53 : decode c_M_count 53 = .ok (.iconst 2, 1) := by decide +kernel
theorem d_M_count_54 : decode c_M_count 54 = .ok (.aload_n 0, 1) := by decide +kernel
theorem d_M_count_55 : decode c_M_count 55 = .ok (.getfield 44, 3) := by decide +kernel
theorem d_M_count_58 : decode c_M_count 58 = .ok (.imul, 1) := by decide +kernel
theorem d_M_count_59 : decode c_M_count 59 = .ok (.if_icmp .ge 26, 3) := by decide +kernel
theorem d_M_count_62 : decode c_M_count 62 = .ok (.iload_n 2, 1) := by decide +kernel
theorem d_M_count_63 : decode c_M_count 63 = .ok (.aload_n 0, 1) := by decide +kernel
theorem d_M_count_64 : decode c_M_count 64 = .ok (.getfield 25, 3) := by decide +kernel
theorem d_M_count_67 : decode c_M_count 67 = .ok (.iload_n 3, 1) := by decide +kernel
theorem d_M_count_68 : decode c_M_count 68 = .ok (.iaload, 1) := by decide +kernel
theorem d_M_count_69 : decode c_M_count 69 = .ok (.ifCond .lt 7, 3) := by decide +kernel
theorem d_M_count_72 : decode c_M_count 72 = .ok (.iconst 1, 1) := by decide +kernel
theorem d_M_count_73 : decode c_M_count 73 = .ok (.goto 4, 3) := by decide +kernel
theorem d_M_count_76 : decode c_M_count 76 = .ok (.iconst 0, 1) := by decide +kernel
theorem d_M_count_77 : decode c_M_count 77 = .ok (.iadd, 1) := by decide +kernel
theorem d_M_count_78 : decode c_M_count 78 = .ok (.istore_n 2, 1) := by decide +kernel
theorem d_M_count_79 : decode c_M_count 79 = .ok (.iinc 3 1, 3) := by decide +kernel
theorem d_M_count_82 : decode c_M_count 82 = .ok (.goto (-30), 3) := by decide +kernel
theorem d_M_count_85 : decode c_M_count 85 = .ok (.iload_n 2, 1) := by decide +kernel
theorem d_M_count_86 : decode c_M_count 86 = .ok (.ireturn, 1) := by decide +kernel
theorem d_M_count_87 : decode c_M_count 87 = .ok (.iconst 0, 1) := by decide +kernel
theorem d_M_count_88 : decode c_M_count 88 = .ok (.istore_n 3, 1) := by decide +kernel
theorem d_M_count_89 : decode c_M_count 89 = .ok (.iload_n 3, 1) := by decide +kernel
theorem d_M_count_90 : decode c_M_count 90 = .ok (.aload_n 0, 1) := by decide +kernel
theorem d_M_count_91 : decode c_M_count 91 = .ok (.getfield 44, 3) := by decide +kernel
theorem d_M_count_94 : decode c_M_count 94 = .ok (.if_icmp .ge 42, 3) := by decide +kernel
theorem d_M_count_97 : decode c_M_count 97 = .ok (.iconst 0, 1) := by decide +kernel
theorem d_M_count_98 : decode c_M_count 98 = .ok (.istore 4, 2) := by decide +kernel
theorem d_M_count_100 : decode c_M_count 100 = .ok (.iload 4, 2) := by decide +kernel
theorem d_M_count_102 : decode c_M_count 102 = .ok (.iload_n 3, 1) := by decide +kernel
theorem d_M_count_103 : decode c_M_count 103 = .ok (.if_icmp .ge 27, 3) := by decide +kernel
theorem d_M_count_106 : decode c_M_count 106 = .ok (.iload_n 2, 1) := by decide +kernel
theorem d_M_count_107 : decode c_M_count 107 = .ok (.aload_n 0, 1) := by decide +kernel
theorem d_M_count_108 : decode c_M_count 108 = .ok (.iload 4, 2) := by decide +kernel
theorem d_M_count_110 : decode c_M_count 110 = .ok (.iload_n 3, 1) := by decide +kernel
theorem d_M_count_111 : decode c_M_count 111 = .ok (.invokevirtual 115, 3) := by decide +kernel
theorem d_M_count_114 : decode c_M_count 114 = .ok (.ifCond .ne 7, 3) := by decide +kernel
theorem d_M_count_117 : decode c_M_count 117 = .ok (.iconst 1, 1) := by decide +kernel
theorem d_M_count_118 : decode c_M_count 118 = .ok (.goto 4, 3) := by decide +kernel
theorem d_M_count_121 : decode c_M_count 121 = .ok (.iconst 0, 1) := by decide +kernel
theorem d_M_count_122 : decode c_M_count 122 = .ok (.iadd, 1) := by decide +kernel
theorem d_M_count_123 : decode c_M_count 123 = .ok (.istore_n 2, 1) := by decide +kernel
theorem d_M_count_124 : decode c_M_count 124 = .ok (.iinc 4 1, 3) := by decide +kernel
theorem d_M_count_127 : decode c_M_count 127 = .ok (.goto (-27), 3) := by decide +kernel
theorem d_M_count_130 : decode c_M_count 130 = .ok (.iinc 3 1, 3) := by decide +kernel
theorem d_M_count_133 : decode c_M_count 133 = .ok (.goto (-44), 3) := by decide +kernel
theorem d_M_count_136 : decode c_M_count 136 = .ok (.iload_n 2, 1) := by decide +kernel
theorem d_M_count_137 : decode c_M_count 137 = .ok (.ireturn, 1) := by decide +kernel
theorem d_M_count_138 : decode c_M_count 138 = .ok (.iconst 0, 1) := by decide +kernel
theorem d_M_count_139 : decode c_M_count 139 = .ok (.istore_n 3, 1) := by decide +kernel
theorem d_M_count_140 : decode c_M_count 140 = .ok (.iload_n 3, 1) := by decide +kernel
theorem d_M_count_141 : decode c_M_count 141 = .ok (.aload_n 0, 1) := by decide +kernel
theorem d_M_count_142 : decode c_M_count 142 = .ok (.getfield 44, 3) := by decide +kernel
theorem d_M_count_145 : decode c_M_count 145 = .ok (.if_icmp .ge 35, 3) := by decide +kernel
theorem d_M_count_148 : decode c_M_count 148 = .ok (.iload_n 2, 1) := by decide +kernel
theorem d_M_count_149 : decode c_M_count 149 = .ok (.aload_n 0, 1) := by decide +kernel
theorem d_M_count_150 : decode c_M_count 150 = .ok (.iload_n 3, 1) := by decide +kernel
theorem d_M_count_151 : decode c_M_count 151 = .ok (.iload_n 1, 1) := by decide +kernel
theorem d_M_count_152 : decode c_M_count 152 = .ok (.iconst 5, 1) := by decide +kernel
theorem d_M_count_153 : decode c_M_count 153 = .ok (.if_icmp .ne 7, 3) := by decide +kernel
theorem d_M_count_156 : decode c_M_count 156 = .ok (.iconst 1, 1) := by decide +kernel
theorem d_M_count_157 : decode c_M_count 157 = .ok (.goto 4, 3) := by decide +kernel
theorem d_M_count_160 : decode c_M_count 160 = .ok (.iconst 0, 1) := by decide +kernel
theorem d_M_count_161 : decode c_M_count 161 = .ok (.invokevirtual 138, 3) := by decide +kernel
theorem d_M_count_164 : decode c_M_count 164 = .ok (.ifCond .eq 7, 3) := by decide +kernel
theorem d_M_count_167 : decode c_M_count 167 = .ok (.iconst 1, 1) := by decide +kernel
theorem d_M_count_168 : decode c_M_count 168 = .ok (.goto 4, 3) := by decide +kernel
theorem d_M_count_171 : decode c_M_count 171 = .ok (.iconst 0, 1) := by decide +kernel
theorem d_M_count_172 : decode c_M_count 172 = .ok (.iadd, 1) := by decide +kernel
theorem d_M_count_173 : decode c_M_count 173 = .ok (.istore_n 2, 1) := by decide +kernel
theorem d_M_count_174 : decode c_M_count 174 = .ok (.iinc 3 1, 3) := by decide +kernel
theorem d_M_count_177 : decode c_M_count 177 = .ok (.goto (-37), 3) := by decide +kernel
theorem d_M_count_180 : decode c_M_count 180 = .ok (.iload_n 2, 1) := by decide +kernel
theorem d_M_count_181 : decode c_M_count 181 = .ok (.ireturn, 1) := by decide +kernel
theorem d_M_count_182 : decode c_M_count 182 = .ok (.iconst (-1), 1) := by decide +kernel
theorem d_M_count_183 : decode c_M_count 183 = .ok (.ireturn, 1) := by decide +kernel
