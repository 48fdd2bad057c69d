theorem d_S_init_0 : decode c_S_init 0 = .ok (.aload_n 0, 1) := by decide +kernel
theorem d_S_init_1 : decode c_S_init 1 = .ok (.invokespecial 1, 3) := by decide +kernel
theorem d_S_init_4 : decode c_S_init 4 = .ok (.aload_n 0, 1) := by decide +kernel
theorem d_S_init_5 : decode c_S_init 5 = .ok (.bipush 60, 2) := by decide +kernel
theorem d_S_init_7 : decode c_S_init 7 = .ok (.newarray .int, 2) := by decide +kernel
theorem d_S_init_9 : decode c_S_init 9 = .ok (.putfield 9, 3) := by decide +kernel
theorem d_S_init_12 : decode c_S_init 12 = .ok (.aload_n 0, 1) := by decide +kernel
theorem d_S_init_13 : decode c_S_init 13 = .ok (.bipush 60, 2) := by decide +kernel
theorem d_S_init_15 : decode c_S_init 15 = .ok (.newarray .int, 2) := by decide +kernel
theorem d_S_init_17 : decode c_S_init 17 = .ok (.putfield 13, 3) := by decide +kernel
theorem d_S_init_20 : decode c_S_init 20 = .ok (.aload_n 0, 1) := by decide +kernel
theorem d_S_init_21 : decode c_S_init 21 = .ok (.bipush 60, 2) := by decide +kernel
theorem d_S_init_23 : decode c_S_init 23 = .ok (.newarray .int, 2) := by decide +kernel
theorem d_S_init_25 : decode c_S_init 25 = .ok (.putfield 16, 3) := by decide +kernel
theorem d_S_init_28 : decode c_S_init 28 = .ok (.aload_n 0, 1) := by decide +kernel
theorem d_S_init_29 : decode c_S_init 29 = .ok (.bipush 60, 2) := by decide +kernel
theorem d_S_init_31 : decode c_S_init 31 = .ok (.newarray .int, 2) := by decide +kernel
theorem d_S_init_33 : decode c_S_init 33 = .ok (.putfield 19, 3) := by decide +kernel
theorem d_S_init_36 : decode c_S_init 36 = .ok (.aload_n 0, 1) := by decide +kernel
theorem d_S_init_37 : decode c_S_init 37 = .ok (.bipush 60, 2) := by decide +kernel
theorem d_S_init_39 : decode c_S_init 39 = .ok (.newarray .int, 2) := by decide +kernel
theorem d_S_init_41 : decode c_S_init 41 = .ok (.putfield 22, 3) := by decide +kernel
theorem d_S_init_44 : decode c_S_init 44 = .ok (.aload_n 0, 1) := by decide +kernel
theorem d_S_init_45 : decode c_S_init 45 = .ok (.bipush 120, 2) := by decide +kernel
theorem d_S_init_47 : decode c_S_init 47 = .ok (.newarray .int, 2) := by decide +kernel
theorem d_S_init_49 : decode c_S_init 49 = .ok (.putfield 25, 3) := by decide +kernel
theorem d_S_init_52 : decode c_S_init 52 = .ok (.aload_n 0, 1) := by decide +kernel
theorem d_S_init_53 : decode c_S_init 53 = .ok (.new 28, 3) := by decide +kernel
theorem d_S_init_56 : decode c_S_init 56 = .ok (.dup, 1) := by decide +kernel
theorem d_S_init_57 : decode c_S_init 57 = .ok (.invokespecial 30, 3) := by decide +kernel
theorem d_S_init_60 : decode c_S_init 60 = .ok (.putfield 31, 3) := by decide +kernel
theorem d_S_init_63 : decode c_S_init 63 = .ok (.aload_n 0, 1) := by decide +kernel
theorem d_S_init_64 : decode c_S_init 64 = .ok (.bipush 110, 2) := by decide +kernel
theorem d_S_init_66 : decode c_S_init 66 = .ok (.putfield 35, 3) := by decide +kernel
theorem d_S_init_69 : decode c_S_init 69 = .ok (.aload_n 0, 1) := by decide +kernel
theorem d_S_init_70 : decode c_S_init 70 = .ok (.bipush 20, 2) := by decide +kernel
theorem d_S_init_72 : decode c_S_init 72 = .ok (.putfield 39, 3) := by decide +kernel
theorem d_S_init_75 : decode c_S_init 75 = .ok (.aload_n 0, 1) := by decide +kernel
theorem d_S_init_76 : decode c_S_init 76 = .ok (.bipush 25, 2) := by decide +kernel
theorem d_S_init_78 : decode c_S_init 78 = .ok (.putfield 42, 3) := by decide +kernel
theorem d_S_init_81 : decode c_S_init 81 = .ok (.aload_n 0, 1) := by decide +kernel
theorem d_S_init_82 : decode c_S_init 82 = .ok (.sipush 450, 3) := by decide +kernel
theorem d_S_init_85 : decode c_S_init 85 = .ok (.putfield 45, 3) := by decide +kernel
theorem d_S_init_88 : decode c_S_init 88 = .ok (.return_, 1) := by decide +kernel
theorem d_S_station_0 : decode c_S_station 0 = .ok (.iload_n 1, 1) := by decide +kernel
theorem d_S_station_1 : decode c_S_station 1 = .ok (.iload_n 2, 1) := by decide +kernel
theorem d_S_station_2 : decode c_S_station 2 = .ok (.invokestatic 48, 3) := by decide +kernel
theorem d_S_station_5 : decode c_S_station 5 = .ok (.ifCond .eq 19, 3) := by decide +kernel
theorem d_S_station_8 : decode c_S_station 8 = .ok (.iload_n 3, 1) := by decide +kernel
theorem d_S_station_9 : decode c_S_station 9 = .ok (.invokestatic 52, 3) := by decide +kernel
theorem d_S_station_12 : decode c_S_station 12 = .ok (.ifCond .eq 12, 3) := by decide +kernel
theorem d_S_station_15 : decode c_S_station 15 = .ok (.aload_n 0, 1) := by decide +kernel
theorem d_S_station_16 : decode c_S_station 16 = .ok (.getfield 56, 3) := by decide +kernel
theorem d_S_station_19 : decode c_S_station 19 = .ok (.bipush 60, 2) := by decide +kernel
theorem d_S_station_21 : decode c_S_station 21 = .ok (.if_icmp .lt 5, 3) := by decide +kernel
theorem d_S_station_24 : decode c_S_station 24 = .ok (.iconst (-1), 1) := by decide +kernel
theorem d_S_station_25 : decode c_S_station 25 = .ok (.ireturn, 1) := by decide +kernel
theorem d_S_station_26 : decode c_S_station 26 = .ok (.aload_n 0, 1) := by decide +kernel
theorem d_S_station_27 : decode c_S_station 27 = .ok (.getfield 56, 3) := by decide +kernel
theorem d_S_station_30 : decode c_S_station 30 = .ok (.istore 4, 2) := by decide +kernel
theorem d_S_station_32 : decode c_S_station 32 = .ok (.aload_n 0, 1) := by decide +kernel
theorem d_S_station_33 : decode c_S_station 33 = .ok (.getfield 9, 3) := by decide +kernel
theorem d_S_station_36 : decode c_S_station 36 = .ok (.iload 4, 2) := by decide +kernel
theorem d_S_station_38 : decode c_S_station 38 = .ok (.iload_n 1, 1) := by decide +kernel
theorem d_S_station_39 : decode c_S_station 39 = .ok (.iastore, 1) := by decide +kernel
theorem d_S_station_40 : decode c_S_station 40 = .ok (.aload_n 0, 1) := by decide +kernel
theorem d_S_station_41 : decode c_S_station 41 = .ok (.getfield 13, 3) := by decide +kernel
theorem d_S_station_44 : decode c_S_station 44 = .ok (.iload 4, 2) := by decide +kernel
theorem d_S_station_46 : decode c_S_station 46 = .ok (.iload_n 2, 1) := by decide +kernel
theorem d_S_station_47 : decode c_S_station 47 = .ok (.iastore, 1) := by decide +kernel
theorem d_S_station_48 : decode c_S_station 48 = .ok (.aload_n 0, 1) := by decide +kernel
theorem d_S_station_49 : decode c_S_station 49 = .ok (.getfield 16, 3) := by decide +kernel
theorem d_S_station_52 : decode c_S_station 52 = .ok (.iload 4, 2) := by decide +kernel
theorem d_S_station_54 : decode c_S_station 54 = .ok (.iload_n 3, 1) := by decide +kernel
theorem d_S_station_55 : decode c_S_station 55 = .ok (.iastore, 1) := by decide +kernel
theorem d_S_station_56 : decode c_S_station 56 = .ok (.aload_n 0, 1) := by decide +kernel
theorem d_S_station_57 : decode c_S_station 57 = .ok (.getfield 22, 3) := by decide +kernel
theorem d_S_station_60 : decode c_S_station 60 = .ok (.iload 4, 2) := by decide +kernel
theorem d_S_station_62 : decode c_S_station 62 = .ok (.bipush 50, 2) := by decide +kernel
theorem d_S_station_64 : decode c_S_station 64 = .ok (.iastore, 1) := by decide +kernel
theorem d_S_station_65 : decode c_S_station 65 = .ok (.aload_n 0, 1) := by decide +kernel
theorem d_S_station_66 : decode c_S_station 66 = .ok (.getfield 25, 3) := by decide +kernel
theorem d_S_station_69 : decode c_S_station 69 = .ok (.iconst 2, 1) := by decide +kernel
theorem d_S_station_70 : decode c_S_station 70 = .ok (.iload 4, 2) := by decide +kernel
theorem d_S_station_72 : decode c_S_station 72 = .ok (.imul, 1) := by decide +kernel
theorem d_S_station_73 : decode c_S_station 73 = .ok (.iconst 0, 1) := by decide +kernel
theorem d_S_station_74 : decode c_S_station 74 = .ok (.iadd, 1) := by decide +kernel
theorem d_S_station_75 : decode c_S_station 75 = .ok (.iconst (-1), 1) := by decide +kernel
theorem d_S_station_76 : decode c_S_station 76 = .ok (.iastore, 1) := by decide +kernel
theorem d_S_station_77 : decode c_S_station 77 = .ok (.aload_n 0, 1) := by decide +kernel
theorem d_S_station_78 : decode c_S_station 78 = .ok (.getfield 25, 3) := by decide +kernel
theorem d_S_station_81 : decode c_S_station 81 = .ok (.iconst 2, 1) := by decide +kernel
theorem d_S_station_82 : decode c_S_station 82 = .ok (.iload 4, 2) := by decide +kernel
theorem d_S_station_84 : decode c_S_station 84 = .ok (.imul, 1) := by decide +kernel
theorem d_S_station_85 : decode c_S_station 85 = .ok (.iconst 1, 1) := by decide +kernel
theorem d_S_station_86 : decode c_S_station 86 = .ok (.iadd, 1) := by decide +kernel
theorem d_S_station_87 : decode c_S_station 87 = .ok (.iconst (-1), 1) := by decide +kernel
theorem d_S_station_88 : decode c_S_station 88 = .ok (.iastore, 1) := by decide +kernel
theorem d_S_station_89 : decode c_S_station 89 = .ok (.aload_n 0, 1) := by decide +kernel
theorem d_S_station_90 : decode c_S_station 90 = .ok (.getfield 19, 3) := by decide +kernel
theorem d_S_station_93 : decode c_S_station 93 = .ok (.iload 4, 2) := by decide +kernel
theorem d_S_station_95 : decode c_S_station 95 = .ok (.iload 4, 2) := by decide +kernel
theorem d_S_station_97 : decode c_S_station 97 = .ok (.ifCond .ne 7, 3) := by decide +kernel
theorem d_S_station_100 : decode c_S_station 100 = .ok (.iconst 0, 1) := by decide +kernel
theorem d_S_station_101 : decode c_S_station 101 = .ok (.goto 23, 3) := by decide +kernel
theorem d_S_station_104 : decode c_S_station 104 = .ok (.aload_n 0, 1) := by decide +kernel
theorem d_S_station_105 : decode c_S_station 105 = .ok (.getfield 19, 3) := by decide +kernel
theorem d_S_station_108 : decode c_S_station 108 = .ok (.iload 4, 2) := by decide +kernel
theorem d_S_station_110 : decode c_S_station 110 = .ok (.iconst 1, 1) := by decide +kernel
theorem d_S_station_111 : decode c_S_station 111 = .ok (.isub, 1) := by decide +kernel
theorem d_S_station_112 : decode c_S_station 112 = .ok (.iaload, 1) := by decide +kernel
theorem d_S_station_113 : decode c_S_station 113 = .ok (.aload_n 0, 1) := by decide +kernel
theorem d_S_station_114 : decode c_S_station 114 = .ok (.iload 4, 2) := by decide +kernel
theorem d_S_station_116 : decode c_S_station 116 = .ok (.iconst 1, 1) := by decide +kernel
theorem d_S_station_117 : decode c_S_station 117 = .ok (.isub, 1) := by decide +kernel
theorem d_S_station_118 : decode c_S_station 118 = .ok (.iload 4, 2) := by decide +kernel
theorem d_S_station_120 : decode c_S_station 120 = .ok (.invokevirtual 59, 3) := by decide +kernel
theorem d_S_station_123 : decode c_S_station 123 = .ok (.iadd, 1) := by decide +kernel
theorem d_S_station_124 : decode c_S_station 124 = .ok (.iastore, 1) := by decide +kernel
theorem d_S_station_125 : decode c_S_station 125 = .ok (.aload_n 0, 1) := by decide +kernel
theorem d_S_station_126 : decode c_S_station 126 = .ok (.dup, 1) := by decide +kernel
theorem d_S_station_127 : decode c_S_station 127 = .ok (.getfield 56, 3) := by decide +kernel
theorem d_S_station_130 : decode c_S_station 130 = .ok (.iconst 1, 1) := by decide +kernel
theorem d_S_station_131 : decode c_S_station 131 = .ok (.iadd, 1) := by decide +kernel
theorem d_S_station_132 : decode c_S_station 132 = .ok (.putfield 56, 3) := by decide +kernel
theorem d_S_station_135 : decode c_S_station 135 = .ok (.iload 4, 2) := by decide +kernel
theorem d_S_station_137 : decode c_S_station 137 = .ok (.ireturn, 1) := by decide +kernel
theorem d_S_heights_0 : decode c_S_heights 0 = .ok (.iload_n 1, 1) := by decide +kernel
theorem d_S_heights_1 : decode c_S_heights 1 = .ok (.iconst 0, 1) := by decide +kernel
theorem d_S_heights_2 : decode c_S_heights 2 = .ok (.sipush 1000, 3) := by decide +kernel
theorem d_S_heights_5 : decode c_S_heights 5 = .ok (.invokestatic 63, 3) := by decide +kernel
theorem d_S_heights_8 : decode c_S_heights 8 = .ok (.ifCond .eq 14, 3) := by decide +kernel
theorem d_S_heights_11 : decode c_S_heights 11 = .ok (.iload_n 2, 1) := by decide +kernel
theorem d_S_heights_12 : decode c_S_heights 12 = .ok (.iconst 0, 1) := by decide +kernel
theorem d_S_heights_13 : decode c_S_heights 13 = .ok (.sipush 1000, 3) := by decide +kernel
theorem d_S_heights_16 : decode c_S_heights 16 = .ok (.invokestatic 63, 3) := by decide +kernel
theorem d_S_heights_19 : decode c_S_heights 19 = .ok (.ifCond .ne 5, 3) := by decide +kernel
theorem d_S_heights_22 : decode c_S_heights 22 = .ok (.iconst 0, 1) := by decide +kernel
theorem d_S_heights_23 : decode c_S_heights 23 = .ok (.ireturn, 1) := by decide +kernel
theorem d_S_heights_24 : decode c_S_heights 24 = .ok (.aload_n 0, 1) := by decide +kernel
theorem d_S_heights_25 : decode c_S_heights 25 = .ok (.iload_n 1, 1) := by decide +kernel
theorem d_S_heights_26 : decode c_S_heights 26 = .ok (.putfield 35, 3) := by decide +kernel
theorem d_S_heights_29 : decode c_S_heights 29 = .ok (.aload_n 0, 1) := by decide +kernel
theorem d_S_heights_30 : decode c_S_heights 30 = .ok (.iload_n 2, 1) := by decide +kernel
theorem d_S_heights_31 : decode c_S_heights 31 = .ok (.putfield 39, 3) := by decide +kernel
theorem d_S_heights_34 : decode c_S_heights 34 = .ok (.iconst 1, 1) := by decide +kernel
theorem d_S_heights_35 : decode c_S_heights 35 = .ok (.ireturn, 1) := by decide +kernel
theorem d_S_clear_0 : decode c_S_clear 0 = .ok (.aload_n 0, 1) := by decide +kernel
theorem d_S_clear_1 : decode c_S_clear 1 = .ok (.iload_n 1, 1) := by decide +kernel
theorem d_S_clear_2 : decode c_S_clear 2 = .ok (.invokevirtual 67, 3) := by decide +kernel
theorem d_S_clear_5 : decode c_S_clear 5 = .ok (.ifCond .eq 21, 3) := by decide +kernel
theorem d_S_clear_8 : decode c_S_clear 8 = .ok (.iload_n 2, 1) := by decide +kernel
theorem d_S_clear_9 : decode c_S_clear 9 = .ok (.invokestatic 70, 3) := by decide +kernel
theorem d_S_clear_12 : decode c_S_clear 12 = .ok (.ifCond .eq 14, 3) := by decide +kernel
theorem d_S_clear_15 : decode c_S_clear 15 = .ok (.iload_n 3, 1) := by decide +kernel
theorem d_S_clear_16 : decode c_S_clear 16 = .ok (.iconst 0, 1) := by decide +kernel
theorem d_S_clear_17 : decode c_S_clear 17 = .ok (.sipush 1000, 3) := by decide +kernel
theorem d_S_clear_20 : decode c_S_clear 20 = .ok (.invokestatic 63, 3) := by decide +kernel
theorem d_S_clear_23 : decode c_S_clear 23 = .ok (.ifCond .ne 5, 3) := by decide +kernel
theorem d_S_clear_26 : decode c_S_clear 26 = .ok (.iconst 0, 1) := by decide +kernel
theorem d_S_clear_27 : decode c_S_clear 27 = .ok (.ireturn, 1) := by decide +kernel
theorem d_S_clear_28 : decode c_S_clear 28 = .ok (.iconst 2, 1) := by decide +kernel
theorem d_S_clear_29 : decode c_S_clear 29 = .ok (.iload_n 1, 1) := by decide +kernel
theorem d_S_clear_30 : decode c_S_clear 30 = .ok (.imul, 1) := by decide +kernel
theorem d_S_clear_31 : decode c_S_clear 31 = .ok (.iload_n 2, 1) := by decide +kernel
theorem d_S_clear_32 : decode c_S_clear 32 = .ok (.iadd, 1) := by decide +kernel
theorem d_S_clear_33 : decode c_S_clear 33 = .ok (.istore 4, 2) := by decide +kernel
theorem d_S_clear_35 : decode c_S_clear 35 = .ok (.aload_n 0, 1) := by decide +kernel
theorem d_S_clear_36 : decode c_S_clear 36 = .ok (.getfield 25, 3) := by decide +kernel
theorem d_S_clear_39 : decode c_S_clear 39 = .ok (.iload 4, 2) := by decide +kernel
theorem d_S_clear_41 : decode c_S_clear 41 = .ok (.iaload, 1) := by decide +kernel
theorem d_S_clear_42 : decode c_S_clear 42 = .ok (.iconst (-1), 1) := by decide +kernel
theorem d_S_clear_43 : decode c_S_clear 43 = .ok (.if_icmp .ne 13, 3) := by decide +kernel
theorem d_S_clear_46 : decode c_S_clear 46 = .ok (.aload_n 0, 1) := by decide +kernel
theorem d_S_clear_47 : decode c_S_clear 47 = .ok (.dup, 1) := by decide +kernel
theorem d_S_clear_48 : decode c_S_clear 48 = .ok (.getfield 73, 3) := by decide +kernel
theorem d_S_clear_51 : decode c_S_clear 51 = .ok (.iconst 1, 1) := by decide +kernel
theorem d_S_clear_52 : decode c_S_clear 52 = .ok (.iadd, 1) := by decide +kernel
theorem d_S_clear_53 : decode c_S_clear 53 = .ok (.putfield 73, 3) := by decide +kernel
theorem d_S_clear_56 : decode c_S_clear 56 = .ok (.aload_n 0, 1) := by decide +kernel
theorem d_S_clear_57 : decode c_S_clear 57 = .ok (.getfield 25, 3) := by decide +kernel
theorem d_S_clear_60 : decode c_S_clear 60 = .ok (.iload 4, 2) := by decide +kernel
theorem d_S_clear_62 : decode c_S_clear 62 = .ok (.iload_n 3, 1) := by decide +kernel
theorem d_S_clear_63 : decode c_S_clear 63 = .ok (.iastore, 1) := by decide +kernel
theorem d_S_clear_64 : decode c_S_clear 64 = .ok (.iconst 1, 1) := by decide +kernel
theorem d_S_clear_65 : decode c_S_clear 65 = .ok (.ireturn, 1) := by decide +kernel
theorem d_S_box_0 : decode c_S_box 0 = .ok (.iload_n 1, 1) := by decide +kernel
theorem d_S_box_1 : decode c_S_box 1 = .ok (.iload_n 2, 1) := by decide +kernel
theorem d_S_box_2 : decode c_S_box 2 = .ok (.invokestatic 48, 3) := by decide +kernel
theorem d_S_box_5 : decode c_S_box 5 = .ok (.ifCond .eq 31, 3) := by decide +kernel
theorem d_S_box_8 : decode c_S_box 8 = .ok (.iload_n 3, 1) := by decide +kernel
theorem d_S_box_9 : decode c_S_box 9 = .ok (.iload 4, 2) := by decide +kernel
theorem d_S_box_11 : decode c_S_box 11 = .ok (.invokestatic 48, 3) := by decide +kernel
theorem d_S_box_14 : decode c_S_box 14 = .ok (.ifCond .eq 22, 3) := by decide +kernel
theorem d_S_box_17 : decode c_S_box 17 = .ok (.iload_n 1, 1) := by decide +kernel
theorem d_S_box_18 : decode c_S_box 18 = .ok (.iload_n 3, 1) := by decide +kernel
theorem d_S_box_19 : decode c_S_box 19 = .ok (.if_icmp .gt 17, 3) := by decide +kernel
theorem d_S_box_22 : decode c_S_box 22 = .ok (.iload_n 2, 1) := by decide +kernel
theorem d_S_box_23 : decode c_S_box 23 = .ok (.iload 4, 2) := by decide +kernel
theorem d_S_box_25 : decode c_S_box 25 = .ok (.if_icmp .gt 11, 3) := by decide +kernel
theorem d_S_box_28 : decode c_S_box 28 = .ok (.iload 5, 2) := by decide +kernel
theorem d_S_box_30 : decode c_S_box 30 = .ok (.invokestatic 52, 3) := by decide +kernel
theorem d_S_box_33 : decode c_S_box 33 = .ok (.ifCond .ne 5, 3) := by decide +kernel
theorem d_S_box_36 : decode c_S_box 36 = .ok (.iconst (-1), 1) := by decide +kernel
theorem d_S_box_37 : decode c_S_box 37 = .ok (.ireturn, 1) := by decide +kernel
theorem d_S_box_38 : decode c_S_box 38 = .ok (.aload_n 0, 1) := by decide +kernel
theorem d_S_box_39 : decode c_S_box 39 = .ok (.getfield 31, 3) := by decide +kernel
theorem d_S_box_42 : decode c_S_box 42 = .ok (.iload_n 1, 1) := by decide +kernel
theorem d_S_box_43 : decode c_S_box 43 = .ok (.iload_n 2, 1) := by decide +kernel
theorem d_S_box_44 : decode c_S_box 44 = .ok (.iload_n 3, 1) := by decide +kernel
theorem d_S_box_45 : decode c_S_box 45 = .ok (.iload 4, 2) := by decide +kernel
theorem d_S_box_47 : decode c_S_box 47 = .ok (.iload 5, 2) := by decide +kernel
theorem d_S_box_49 : decode c_S_box 49 = .ok (.invokevirtual 76, 3) := by decide +kernel
theorem d_S_box_52 : decode c_S_box 52 = .ok (.ireturn, 1) := by decide +kernel
theorem d_S_speed_0 : decode c_S_speed 0 = .ok (.aload_n 0, 1) := by decide +kernel
theorem d_S_speed_1 : decode c_S_speed 1 = .ok (.iload_n 1, 1) := by decide +kernel
theorem d_S_speed_2 : decode c_S_speed 2 = .ok (.invokevirtual 67, 3) := by decide +kernel
theorem d_S_speed_5 : decode c_S_speed 5 = .ok (.ifCond .eq 14, 3) := by decide +kernel
theorem d_S_speed_8 : decode c_S_speed 8 = .ok (.iload_n 2, 1) := by decide +kernel
theorem d_S_speed_9 : decode c_S_speed 9 = .ok (.iconst 0, 1) := by decide +kernel
theorem d_S_speed_10 : decode c_S_speed 10 = .ok (.sipush 200, 3) := by decide +kernel
theorem d_S_speed_13 : decode c_S_speed 13 = .ok (.invokestatic 63, 3) := by decide +kernel
theorem d_S_speed_16 : decode c_S_speed 16 = .ok (.ifCond .ne 5, 3) := by decide +kernel
theorem d_S_speed_19 : decode c_S_speed 19 = .ok (.iconst 0, 1) := by decide +kernel
theorem d_S_speed_20 : decode c_S_speed 20 = .ok (.ireturn, 1) := by decide +kernel
theorem d_S_speed_21 : decode c_S_speed 21 = .ok (.aload_n 0, 1) := by decide +kernel
theorem d_S_speed_22 : decode c_S_speed 22 = .ok (.getfield 22, 3) := by decide +kernel
theorem d_S_speed_25 : decode c_S_speed 25 = .ok (.iload_n 1, 1) := by decide +kernel
theorem d_S_speed_26 : decode c_S_speed 26 = .ok (.iload_n 2, 1) := by decide +kernel
theorem d_S_speed_27 : decode c_S_speed 27 = .ok (.iastore, 1) := by decide +kernel
theorem d_S_speed_28 : decode c_S_speed 28 = .ok (.iconst 1, 1) := by decide +kernel
theorem d_S_speed_29 : decode c_S_speed 29 = .ok (.ireturn, 1) := by decide +kernel
theorem d_S_brake_0 : decode c_S_brake 0 = .ok (.iload_n 1, 1) := by decide +kernel
theorem d_S_brake_1 : decode c_S_brake 1 = .ok (.iconst 0, 1) := by decide +kernel
theorem d_S_brake_2 : decode c_S_brake 2 = .ok (.bipush 100, 2) := by decide +kernel
theorem d_S_brake_4 : decode c_S_brake 4 = .ok (.invokestatic 63, 3) := by decide +kernel
theorem d_S_brake_7 : decode c_S_brake 7 = .ok (.ifCond .eq 15, 3) := by decide +kernel
theorem d_S_brake_10 : decode c_S_brake 10 = .ok (.iload_n 2, 1) := by decide +kernel
theorem d_S_brake_11 : decode c_S_brake 11 = .ok (.bipush 50, 2) := by decide +kernel
theorem d_S_brake_13 : decode c_S_brake 13 = .ok (.sipush 1000, 3) := by decide +kernel
theorem d_S_brake_16 : decode c_S_brake 16 = .ok (.invokestatic 63, 3) := by decide +kernel
theorem d_S_brake_19 : decode c_S_brake 19 = .ok (.ifCond .ne 5, 3) := by decide +kernel
theorem d_S_brake_22 : decode c_S_brake 22 = .ok (.iconst 0, 1) := by decide +kernel
theorem d_S_brake_23 : decode c_S_brake 23 = .ok (.ireturn, 1) := by decide +kernel
theorem d_S_brake_24 : decode c_S_brake 24 = .ok (.aload_n 0, 1) := by decide +kernel
theorem d_S_brake_25 : decode c_S_brake 25 = .ok (.iload_n 1, 1) := by decide +kernel
theorem d_S_brake_26 : decode c_S_brake 26 = .ok (.putfield 42, 3) := by decide +kernel
theorem d_S_brake_29 : decode c_S_brake 29 = .ok (.aload_n 0, 1) := by decide +kernel
theorem d_S_brake_30 : decode c_S_brake 30 = .ok (.iload_n 2, 1) := by decide +kernel
theorem d_S_brake_31 : decode c_S_brake 31 = .ok (.putfield 45, 3) := by decide +kernel
theorem d_S_brake_34 : decode c_S_brake 34 = .ok (.iconst 1, 1) := by decide +kernel
theorem d_S_brake_35 : decode c_S_brake 35 = .ok (.ireturn, 1) := by decide +kernel
theorem d_S_way_0 : decode c_S_way 0 = .ok (.aload_n 0, 1) := by decide +kernel
theorem d_S_way_1 : decode c_S_way 1 = .ok (.iload_n 1, 1) := by decide +kernel
theorem d_S_way_2 : decode c_S_way 2 = .ok (.invokevirtual 67, 3) := by decide +kernel
theorem d_S_way_5 : decode c_S_way 5 = .ok (.ifCond .eq 12, 3) := by decide +kernel
theorem d_S_way_8 : decode c_S_way 8 = .ok (.aload_n 0, 1) := by decide +kernel
theorem d_S_way_9 : decode c_S_way 9 = .ok (.getfield 19, 3) := by decide +kernel
theorem d_S_way_12 : decode c_S_way 12 = .ok (.iload_n 1, 1) := by decide +kernel
theorem d_S_way_13 : decode c_S_way 13 = .ok (.iaload, 1) := by decide +kernel
theorem d_S_way_14 : decode c_S_way 14 = .ok (.goto 4, 3) := by decide +kernel
theorem d_S_way_17 : decode c_S_way 17 = .ok (.iconst (-1), 1) := by decide +kernel
theorem d_S_way_18 : decode c_S_way 18 = .ok (.ireturn, 1) := by decide +kernel
theorem d_S_view_0 : decode c_S_view 0 = .ok (.aload_n 0, 1) := by decide +kernel
theorem d_S_view_1 : decode c_S_view 1 = .ok (.iload_n 1, 1) := by decide +kernel
theorem d_S_view_2 : decode c_S_view 2 = .ok (.invokevirtual 67, 3) := by decide +kernel
theorem d_S_view_5 : decode c_S_view 5 = .ok (.ifCond .eq 25, 3) := by decide +kernel
theorem d_S_view_8 : decode c_S_view 8 = .ok (.aload_n 0, 1) := by decide +kernel
theorem d_S_view_9 : decode c_S_view 9 = .ok (.iload_n 2, 1) := by decide +kernel
theorem d_S_view_10 : decode c_S_view 10 = .ok (.invokevirtual 67, 3) := by decide +kernel
theorem d_S_view_13 : decode c_S_view 13 = .ok (.ifCond .eq 17, 3) := by decide +kernel
theorem d_S_view_16 : decode c_S_view 16 = .ok (.iload_n 1, 1) := by decide +kernel
theorem d_S_view_17 : decode c_S_view 17 = .ok (.iload_n 2, 1) := by decide +kernel
theorem d_S_view_18 : decode c_S_view 18 = .ok (.if_icmp .eq 12, 3) := by decide +kernel
theorem d_S_view_21 : decode c_S_view 21 = .ok (.iload_n 3, 1) := by decide +kernel
theorem d_S_view_22 : decode c_S_view 22 = .ok (.iconst 0, 1) := by decide +kernel
theorem d_S_view_23 : decode c_S_view 23 = .ok (.iconst 1, 1) := by decide +kernel
theorem d_S_view_24 : decode c_S_view 24 = .ok (.invokestatic 63, 3) := by decide +kernel
theorem d_S_view_27 : decode c_S_view 27 = .ok (.ifCond .ne 5, 3) := by decide +kernel
theorem d_S_view_30 : decode c_S_view 30 = .ok (.iconst (-1), 1) := by decide +kernel
theorem d_S_view_31 : decode c_S_view 31 = .ok (.ireturn, 1) := by decide +kernel
theorem d_S_view_32 : decode c_S_view 32 = .ok (.aload_n 0, 1) := by decide +kernel
theorem d_S_view_33 : decode c_S_view 33 = .ok (.iload_n 1, 1) := by decide +kernel
theorem d_S_view_34 : decode c_S_view 34 = .ok (.iload_n 2, 1) := by decide +kernel
theorem d_S_view_35 : decode c_S_view 35 = .ok (.invokevirtual 80, 3) := by decide +kernel
theorem d_S_view_38 : decode c_S_view 38 = .ok (.istore 4, 2) := by decide +kernel
theorem d_S_view_40 : decode c_S_view 40 = .ok (.iload_n 3, 1) := by decide +kernel
theorem d_S_view_41 : decode c_S_view 41 = .ok (.ifCond .ne 9, 3) := by decide +kernel
theorem d_S_view_44 : decode c_S_view 44 = .ok (.iload 4, 2) := by decide +kernel
theorem d_S_view_46 : decode c_S_view 46 = .ok (.bipush 64, 2) := by decide +kernel
theorem d_S_view_48 : decode c_S_view 48 = .ok (.idiv, 1) := by decide +kernel
theorem d_S_view_49 : decode c_S_view 49 = .ok (.ireturn, 1) := by decide +kernel
theorem d_S_view_50 : decode c_S_view 50 = .ok (.iload 4, 2) := by decide +kernel
theorem d_S_view_52 : decode c_S_view 52 = .ok (.ifCond .ne 7, 3) := by decide +kernel
theorem d_S_view_55 : decode c_S_view 55 = .ok (.iconst (-1), 1) := by decide +kernel
theorem d_S_view_56 : decode c_S_view 56 = .ok (.goto 8, 3) := by decide +kernel
theorem d_S_view_59 : decode c_S_view 59 = .ok (.iload 4, 2) := by decide +kernel
theorem d_S_view_61 : decode c_S_view 61 = .ok (.bipush 64, 2) := by decide +kernel
theorem d_S_view_63 : decode c_S_view 63 = .ok (.irem, 1) := by decide +kernel
theorem d_S_view_64 : decode c_S_view 64 = .ok (.ireturn, 1) := by decide +kernel
theorem d_S_sight_0 : decode c_S_sight 0 = .ok (.aload_n 0, 1) := by decide +kernel
theorem d_S_sight_1 : decode c_S_sight 1 = .ok (.iload_n 1, 1) := by decide +kernel
theorem d_S_sight_2 : decode c_S_sight 2 = .ok (.invokevirtual 67, 3) := by decide +kernel
theorem d_S_sight_5 : decode c_S_sight 5 = .ok (.ifCond .eq 12, 3) := by decide +kernel
theorem d_S_sight_8 : decode c_S_sight 8 = .ok (.aload_n 0, 1) := by decide +kernel
theorem d_S_sight_9 : decode c_S_sight 9 = .ok (.iload_n 1, 1) := by decide +kernel
theorem d_S_sight_10 : decode c_S_sight 10 = .ok (.iload_n 2, 1) := by decide +kernel
theorem d_S_sight_11 : decode c_S_sight 11 = .ok (.invokevirtual 83, 3) := by decide +kernel
theorem d_S_sight_14 : decode c_S_sight 14 = .ok (.goto 4, 3) := by decide +kernel
theorem d_S_sight_17 : decode c_S_sight 17 = .ok (.iconst (-1), 1) := by decide +kernel
theorem d_S_sight_18 : decode c_S_sight 18 = .ok (.ireturn, 1) := by decide +kernel
theorem d_S_need_0 : decode c_S_need 0 = .ok (.aload_n 0, 1) := by decide +kernel
theorem d_S_need_1 : decode c_S_need 1 = .ok (.iload_n 1, 1) := by decide +kernel
theorem d_S_need_2 : decode c_S_need 2 = .ok (.invokevirtual 67, 3) := by decide +kernel
theorem d_S_need_5 : decode c_S_need 5 = .ok (.ifCond .eq 18, 3) := by decide +kernel
theorem d_S_need_8 : decode c_S_need 8 = .ok (.aload_n 0, 1) := by decide +kernel
theorem d_S_need_9 : decode c_S_need 9 = .ok (.iload_n 1, 1) := by decide +kernel
theorem d_S_need_10 : decode c_S_need 10 = .ok (.iload_n 2, 1) := by decide +kernel
theorem d_S_need_11 : decode c_S_need 11 = .ok (.aload_n 0, 1) := by decide +kernel
theorem d_S_need_12 : decode c_S_need 12 = .ok (.getfield 22, 3) := by decide +kernel
theorem d_S_need_15 : decode c_S_need 15 = .ok (.iload_n 1, 1) := by decide +kernel
theorem d_S_need_16 : decode c_S_need 16 = .ok (.iaload, 1) := by decide +kernel
theorem d_S_need_17 : decode c_S_need 17 = .ok (.invokevirtual 87, 3) := by decide +kernel
theorem d_S_need_20 : decode c_S_need 20 = .ok (.goto 4, 3) := by decide +kernel
theorem d_S_need_23 : decode c_S_need 23 = .ok (.iconst (-1), 1) := by decide +kernel
theorem d_S_need_24 : decode c_S_need 24 = .ok (.ireturn, 1) := by decide +kernel
theorem d_S_blind_0 : decode c_S_blind 0 = .ok (.iload_n 2, 1) := by decide +kernel
theorem d_S_blind_1 : decode c_S_blind 1 = .ok (.ifCond .lt 12, 3) := by decide +kernel
theorem d_S_blind_4 : decode c_S_blind 4 = .ok (.iload_n 3, 1) := by decide +kernel
theorem d_S_blind_5 : decode c_S_blind 5 = .ok (.iconst 0, 1) := by decide +kernel
theorem d_S_blind_6 : decode c_S_blind 6 = .ok (.iconst 1, 1) := by decide +kernel
theorem d_S_blind_7 : decode c_S_blind 7 = .ok (.invokestatic 63, 3) := by decide +kernel
theorem d_S_blind_10 : decode c_S_blind 10 = .ok (.ifCond .ne 5, 3) := by decide +kernel
theorem d_S_blind_13 : decode c_S_blind 13 = .ok (.iconst (-1), 1) := by decide +kernel
theorem d_S_blind_14 : decode c_S_blind 14 = .ok (.ireturn, 1) := by decide +kernel
theorem d_S_blind_15 : decode c_S_blind 15 = .ok (.iconst 0, 1) := by decide +kernel
theorem d_S_blind_16 : decode c_S_blind 16 = .ok (.istore 4, 2) := by decide +kernel
theorem d_S_blind_18 : decode c_S_blind 18 = .ok (.iconst (-1), 1) := by decide +kernel
theorem d_S_blind_19 : decode c_S_blind 19 = .ok (.istore 5, 2) := by decide +kernel
theorem d_S_blind_21 : decode c_S_blind 21 = .ok (.iconst 0, 1) := by decide +kernel
theorem d_S_blind_22 : decode c_S_blind 22 = .ok (.istore 6, 2) := by decide +kernel
theorem d_S_blind_24 : decode c_S_blind 24 = .ok (.iload 6, 2) := by decide +kernel
theorem d_S_blind_26 : decode c_S_blind 26 = .ok (.aload_n 0, 1) := by decide +kernel
theorem d_S_blind_27 : decode c_S_blind 27 = .ok (.getfield 56, 3) := by decide +kernel
theorem d_S_blind_30 : decode c_S_blind 30 = .ok (.if_icmp .gt 87, 3) := by decide +kernel
theorem d_S_blind_33 : decode c_S_blind 33 = .ok (.iload 6, 2) := by decide +kernel
theorem d_S_blind_35 : decode c_S_blind 35 = .ok (.aload_n 0, 1) := by decide +kernel
theorem d_S_blind_36 : decode c_S_blind 36 = .ok (.getfield 56, 3) := by decide +kernel
theorem d_S_blind_39 : decode c_S_blind 39 = .ok (.if_icmp .ge 17, 3) := by decide +kernel
theorem d_S_blind_42 : decode c_S_blind 42 = .ok (.aload_n 0, 1) := by decide +kernel
theorem d_S_blind_43 : decode c_S_blind 43 = .ok (.iload 6, 2) := by decide +kernel
theorem d_S_blind_45 : decode c_S_blind 45 = .ok (.iload_n 1, 1) := by decide +kernel
theorem d_S_blind_46 : decode c_S_blind 46 = .ok (.invokevirtual 91, 3) := by decide +kernel
theorem d_S_blind_49 : decode c_S_blind 49 = .ok (.ifCond .eq 7, 3) := by decide +kernel
theorem d_S_blind_52 : decode c_S_blind 52 = .ok (.iconst 1, 1) := by decide +kernel
theorem d_S_blind_53 : decode c_S_blind 53 = .ok (.goto 4, 3) := by decide +kernel
theorem d_S_blind_56 : decode c_S_blind 56 = .ok (.iconst 0, 1) := by decide +kernel
theorem d_S_blind_57 : decode c_S_blind 57 = .ok (.istore 7, 2) := by decide +kernel
theorem d_S_blind_59 : decode c_S_blind 59 = .ok (.iload 7, 2) := by decide +kernel
theorem d_S_blind_61 : decode c_S_blind 61 = .ok (.ifCond .eq 13, 3) := by decide +kernel
theorem d_S_blind_64 : decode c_S_blind 64 = .ok (.iload 5, 2) := by decide +kernel
theorem d_S_blind_66 : decode c_S_blind 66 = .ok (.iconst (-1), 1) := by decide +kernel
theorem d_S_blind_67 : decode c_S_blind 67 = .ok (.if_icmp .ne 7, 3) := by decide +kernel
theorem d_S_blind_70 : decode c_S_blind 70 = .ok (.iload 6, 2) := by decide +kernel
theorem d_S_blind_72 : decode c_S_blind 72 = .ok (.istore 5, 2) := by decide +kernel
theorem d_S_blind_74 : decode c_S_blind 74 = .ok (.iload 7, 2) := by decide +kernel
theorem d_S_blind_76 : decode c_S_blind 76 = .ok (.ifCond .ne 35, 3) := by decide +kernel
theorem d_S_blind_79 : decode c_S_blind 79 = .ok (.iload 5, 2) := by decide +kernel
theorem d_S_blind_81 : decode c_S_blind 81 = .ok (.iconst (-1), 1) := by decide +kernel
theorem d_S_blind_82 : decode c_S_blind 82 = .ok (.if_icmp .eq 29, 3) := by decide +kernel
theorem d_S_blind_85 : decode c_S_blind 85 = .ok (.iload 4, 2) := by decide +kernel
theorem d_S_blind_87 : decode c_S_blind 87 = .ok (.iload_n 2, 1) := by decide +kernel
theorem d_S_blind_88 : decode c_S_blind 88 = .ok (.if_icmp .ne 17, 3) := by decide +kernel
theorem d_S_blind_91 : decode c_S_blind 91 = .ok (.iload_n 3, 1) := by decide +kernel
theorem d_S_blind_92 : decode c_S_blind 92 = .ok (.ifCond .ne 8, 3) := by decide +kernel
theorem d_S_blind_95 : decode c_S_blind 95 = .ok (.iload 5, 2) := by decide +kernel
theorem d_S_blind_97 : decode c_S_blind 97 = .ok (.goto 7, 3) := by decide +kernel
theorem d_S_blind_100 : decode c_S_blind 100 = .ok (.iload 6, 2) := by decide +kernel
theorem d_S_blind_102 : decode c_S_blind 102 = .ok (.iconst 1, 1) := by decide +kernel
theorem d_S_blind_103 : decode c_S_blind 103 = .ok (.isub, 1) := by decide +kernel
theorem d_S_blind_104 : decode c_S_blind 104 = .ok (.ireturn, 1) := by decide +kernel
theorem d_S_blind_105 : decode c_S_blind 105 = .ok (.iinc 4 1, 3) := by decide +kernel
theorem d_S_blind_108 : decode c_S_blind 108 = .ok (.iconst (-1), 1) := by decide +kernel
theorem d_S_blind_109 : decode c_S_blind 109 = .ok (.istore 5, 2) := by decide +kernel
theorem d_S_blind_111 : decode c_S_blind 111 = .ok (.iinc 6 1, 3) := by decide +kernel
theorem d_S_blind_114 : decode c_S_blind 114 = .ok (.goto (-90), 3) := by decide +kernel
theorem d_S_blind_117 : decode c_S_blind 117 = .ok (.iconst (-1), 1) := by decide +kernel
theorem d_S_blind_118 : decode c_S_blind 118 = .ok (.ireturn, 1) := by decide +kernel
theorem d_S_setBack_0 : decode c_S_setBack 0 = .ok (.aload_n 0, 1) := by decide +kernel
theorem d_S_setBack_1 : decode c_S_setBack 1 = .ok (.iload_n 1, 1) := by decide +kernel
theorem d_S_setBack_2 : decode c_S_setBack 2 = .ok (.invokevirtual 67, 3) := by decide +kernel
theorem d_S_setBack_5 : decode c_S_setBack 5 = .ok (.ifCond .eq 10, 3) := by decide +kernel
theorem d_S_setBack_8 : decode c_S_setBack 8 = .ok (.iload_n 2, 1) := by decide +kernel
theorem d_S_setBack_9 : decode c_S_setBack 9 = .ok (.invokestatic 70, 3) := by decide +kernel
theorem d_S_setBack_12 : decode c_S_setBack 12 = .ok (.ifCond .ne 5, 3) := by decide +kernel
theorem d_S_setBack_15 : decode c_S_setBack 15 = .ok (.iconst (-1), 1) := by decide +kernel
theorem d_S_setBack_16 : decode c_S_setBack 16 = .ok (.ireturn, 1) := by decide +kernel
theorem d_S_setBack_17 : decode c_S_setBack 17 = .ok (.iconst 0, 1) := by decide +kernel
theorem d_S_setBack_18 : decode c_S_setBack 18 = .ok (.istore_n 3, 1) := by decide +kernel
theorem d_S_setBack_19 : decode c_S_setBack 19 = .ok (.iconst 0, 1) := by decide +kernel
theorem d_S_setBack_20 : decode c_S_setBack 20 = .ok (.istore 4, 2) := by decide +kernel
theorem d_S_setBack_22 : decode c_S_setBack 22 = .ok (.iload 4, 2) := by decide +kernel
theorem d_S_setBack_24 : decode c_S_setBack 24 = .ok (.iload_n 1, 1) := by decide +kernel
theorem d_S_setBack_25 : decode c_S_setBack 25 = .ok (.if_icmp .ge 77, 3) := by decide +kernel
theorem d_S_setBack_28 : decode c_S_setBack 28 = .ok (.aload_n 0, 1) := by decide +kernel
theorem d_S_setBack_29 : decode c_S_setBack 29 = .ok (.getfield 19, 3) := by decide +kernel
theorem d_S_setBack_32 : decode c_S_setBack 32 = .ok (.iload 4, 2) := by decide +kernel
theorem d_S_setBack_34 : decode c_S_setBack 34 = .ok (.iaload, 1) := by decide +kernel
theorem d_S_setBack_35 : decode c_S_setBack 35 = .ok (.aload_n 0, 1) := by decide +kernel
theorem d_S_setBack_36 : decode c_S_setBack 36 = .ok (.iload 4, 2) := by decide +kernel
theorem d_S_setBack_38 : decode c_S_setBack 38 = .ok (.iconst 0, 1) := by decide +kernel
theorem d_S_setBack_39 : decode c_S_setBack 39 = .ok (.aload_n 0, 1) := by decide +kernel
theorem d_S_setBack_40 : decode c_S_setBack 40 = .ok (.getfield 22, 3) := by decide +kernel
theorem d_S_setBack_43 : decode c_S_setBack 43 = .ok (.iload 4, 2) := by decide +kernel
theorem d_S_setBack_45 : decode c_S_setBack 45 = .ok (.iaload, 1) := by decide +kernel
theorem d_S_setBack_46 : decode c_S_setBack 46 = .ok (.invokevirtual 87, 3) := by decide +kernel
theorem d_S_setBack_49 : decode c_S_setBack 49 = .ok (.iadd, 1) := by decide +kernel
theorem d_S_setBack_50 : decode c_S_setBack 50 = .ok (.istore 5, 2) := by decide +kernel
theorem d_S_setBack_52 : decode c_S_setBack 52 = .ok (.iload_n 1, 1) := by decide +kernel
theorem d_S_setBack_53 : decode c_S_setBack 53 = .ok (.iconst 1, 1) := by decide +kernel
theorem d_S_setBack_54 : decode c_S_setBack 54 = .ok (.iadd, 1) := by decide +kernel
theorem d_S_setBack_55 : decode c_S_setBack 55 = .ok (.istore 6, 2) := by decide +kernel
theorem d_S_setBack_57 : decode c_S_setBack 57 = .ok (.iload 6, 2) := by decide +kernel
theorem d_S_setBack_59 : decode c_S_setBack 59 = .ok (.aload_n 0, 1) := by decide +kernel
theorem d_S_setBack_60 : decode c_S_setBack 60 = .ok (.getfield 56, 3) := by decide +kernel
theorem d_S_setBack_63 : decode c_S_setBack 63 = .ok (.if_icmp .ge 33, 3) := by decide +kernel
theorem d_S_setBack_66 : decode c_S_setBack 66 = .ok (.aload_n 0, 1) := by decide +kernel
theorem d_S_setBack_67 : decode c_S_setBack 67 = .ok (.getfield 19, 3) := by decide +kernel
theorem d_S_setBack_70 : decode c_S_setBack 70 = .ok (.iload 6, 2) := by decide +kernel
theorem d_S_setBack_72 : decode c_S_setBack 72 = .ok (.iaload, 1) := by decide +kernel
theorem d_S_setBack_73 : decode c_S_setBack 73 = .ok (.iload 5, 2) := by decide +kernel
theorem d_S_setBack_75 : decode c_S_setBack 75 = .ok (.if_icmp .gt 21, 3) := by decide +kernel
theorem d_S_setBack_78 : decode c_S_setBack 78 = .ok (.aload_n 0, 1) := by decide +kernel
theorem d_S_setBack_79 : decode c_S_setBack 79 = .ok (.iload_n 3, 1) := by decide +kernel
theorem d_S_setBack_80 : decode c_S_setBack 80 = .ok (.iload 4, 2) := by decide +kernel
theorem d_S_setBack_82 : decode c_S_setBack 82 = .ok (.iload 6, 2) := by decide +kernel
theorem d_S_setBack_84 : decode c_S_setBack 84 = .ok (.iload_n 1, 1) := by decide +kernel
theorem d_S_setBack_85 : decode c_S_setBack 85 = .ok (.iload_n 2, 1) := by decide +kernel
theorem d_S_setBack_86 : decode c_S_setBack 86 = .ok (.invokevirtual 95, 3) := by decide +kernel
theorem d_S_setBack_89 : decode c_S_setBack 89 = .ok (.istore_n 3, 1) := by decide +kernel
theorem d_S_setBack_90 : decode c_S_setBack 90 = .ok (.iinc 6 1, 3) := by decide +kernel
theorem d_S_setBack_93 : decode c_S_setBack 93 = .ok (.goto (-36), 3) := by decide +kernel
theorem d_S_setBack_96 : decode c_S_setBack 96 = .ok (.iinc 4 1, 3) := by decide +kernel
theorem d_S_setBack_99 : decode c_S_setBack 99 = .ok (.goto (-77), 3) := by decide +kernel
theorem d_S_setBack_102 : decode c_S_setBack 102 = .ok (.iload_n 3, 1) := by decide +kernel
theorem d_S_setBack_103 : decode c_S_setBack 103 = .ok (.sipush 1000, 3) := by decide +kernel
theorem d_S_setBack_106 : decode c_S_setBack 106 = .ok (.if_icmp .le 7, 3) := by decide +kernel
theorem d_S_setBack_109 : decode c_S_setBack 109 = .ok (.iconst (-1), 1) := by decide +kernel
theorem d_S_setBack_110 : decode c_S_setBack 110 = .ok (.goto 4, 3) := by decide +kernel
theorem d_S_setBack_113 : decode c_S_setBack 113 = .ok (.iload_n 3, 1) := by decide +kernel
theorem d_S_setBack_114 : decode c_S_setBack 114 = .ok (.ireturn, 1) := by decide +kernel
theorem d_S_allowed_0 : decode c_S_allowed 0 = .ok (.aload_n 0, 1) := by decide +kernel
theorem d_S_allowed_1 : decode c_S_allowed 1 = .ok (.iload_n 1, 1) := by decide +kernel
theorem d_S_allowed_2 : decode c_S_allowed 2 = .ok (.invokevirtual 67, 3) := by decide +kernel
theorem d_S_allowed_5 : decode c_S_allowed 5 = .ok (.ifCond .ne 5, 3) := by decide +kernel
theorem d_S_allowed_8 : decode c_S_allowed 8 = .ok (.iconst (-1), 1) := by decide +kernel
theorem d_S_allowed_9 : decode c_S_allowed 9 = .ok (.ireturn, 1) := by decide +kernel
theorem d_S_allowed_10 : decode c_S_allowed 10 = .ok (.aload_n 0, 1) := by decide +kernel
theorem d_S_allowed_11 : decode c_S_allowed 11 = .ok (.iload_n 1, 1) := by decide +kernel
theorem d_S_allowed_12 : decode c_S_allowed 12 = .ok (.iload_n 2, 1) := by decide +kernel
theorem d_S_allowed_13 : decode c_S_allowed 13 = .ok (.invokevirtual 83, 3) := by decide +kernel
theorem d_S_allowed_16 : decode c_S_allowed 16 = .ok (.istore_n 3, 1) := by decide +kernel
theorem d_S_allowed_17 : decode c_S_allowed 17 = .ok (.aload_n 0, 1) := by decide +kernel
theorem d_S_allowed_18 : decode c_S_allowed 18 = .ok (.iload_n 1, 1) := by decide +kernel
theorem d_S_allowed_19 : decode c_S_allowed 19 = .ok (.iload_n 2, 1) := by decide +kernel
theorem d_S_allowed_20 : decode c_S_allowed 20 = .ok (.invokevirtual 98, 3) := by decide +kernel
theorem d_S_allowed_23 : decode c_S_allowed 23 = .ok (.istore 4, 2) := by decide +kernel
theorem d_S_allowed_25 : decode c_S_allowed 25 = .ok (.sipush 130, 3) := by decide +kernel
theorem d_S_allowed_28 : decode c_S_allowed 28 = .ok (.istore 5, 2) := by decide +kernel
theorem d_S_allowed_30 : decode c_S_allowed 30 = .ok (.iload 5, 2) := by decide +kernel
theorem d_S_allowed_32 : decode c_S_allowed 32 = .ok (.ifCond .le 35, 3) := by decide +kernel
theorem d_S_allowed_35 : decode c_S_allowed 35 = .ok (.aload_n 0, 1) := by decide +kernel
theorem d_S_allowed_36 : decode c_S_allowed 36 = .ok (.iload_n 1, 1) := by decide +kernel
theorem d_S_allowed_37 : decode c_S_allowed 37 = .ok (.iload_n 2, 1) := by decide +kernel
theorem d_S_allowed_38 : decode c_S_allowed 38 = .ok (.iload 5, 2) := by decide +kernel
theorem d_S_allowed_40 : decode c_S_allowed 40 = .ok (.invokevirtual 87, 3) := by decide +kernel
theorem d_S_allowed_43 : decode c_S_allowed 43 = .ok (.istore 6, 2) := by decide +kernel
theorem d_S_allowed_45 : decode c_S_allowed 45 = .ok (.iload 6, 2) := by decide +kernel
theorem d_S_allowed_47 : decode c_S_allowed 47 = .ok (.iload_n 3, 1) := by decide +kernel
theorem d_S_allowed_48 : decode c_S_allowed 48 = .ok (.if_icmp .le 10, 3) := by decide +kernel
theorem d_S_allowed_51 : decode c_S_allowed 51 = .ok (.iload 4, 2) := by decide +kernel
theorem d_S_allowed_53 : decode c_S_allowed 53 = .ok (.iload 6, 2) := by decide +kernel
theorem d_S_allowed_55 : decode c_S_allowed 55 = .ok (.if_icmp .ge 6, 3) := by decide +kernel
theorem d_S_allowed_58 : decode c_S_allowed 58 = .ok (.iload 5, 2) := by decide +kernel
theorem d_S_allowed_60 : decode c_S_allowed 60 = .ok (.ireturn, 1) := by decide +kernel
theorem d_S_allowed_61 : decode c_S_allowed 61 = .ok (.iinc 5 (-5), 3) := by decide +kernel
theorem d_S_allowed_64 : decode c_S_allowed 64 = .ok (.goto (-34), 3) := by decide +kernel
theorem d_S_allowed_67 : decode c_S_allowed 67 = .ok (.iconst 0, 1) := by decide +kernel
theorem d_S_allowed_68 : decode c_S_allowed 68 = .ok (.ireturn, 1) := by decide +kernel
theorem d_S_overtake_0 : decode c_S_overtake 0 = .ok (.iload_n 1, 1) := by decide +kernel
theorem d_S_overtake_1 : decode c_S_overtake 1 = .ok (.iconst 1, 1) := by decide +kernel
theorem d_S_overtake_2 : decode c_S_overtake 2 = .ok (.ldc 101, 2) := by decide +kernel
theorem d_S_overtake_4 : decode c_S_overtake 4 = .ok (.invokestatic 63, 3) := by decide +kernel
theorem d_S_overtake_7 : decode c_S_overtake 7 = .ok (.ifCond .ne 5, 3) := by decide +kernel
theorem d_S_overtake_10 : decode c_S_overtake 10 = .ok (.iconst (-1), 1) := by decide +kernel
theorem d_S_overtake_11 : decode c_S_overtake 11 = .ok (.ireturn, 1) := by decide +kernel
theorem d_S_overtake_12 : decode c_S_overtake 12 = .ok (.iconst 0, 1) := by decide +kernel
theorem d_S_overtake_13 : decode c_S_overtake 13 = .ok (.istore_n 2, 1) := by decide +kernel
theorem d_S_overtake_14 : decode c_S_overtake 14 = .ok (.iconst (-1), 1) := by decide +kernel
theorem d_S_overtake_15 : decode c_S_overtake 15 = .ok (.istore_n 3, 1) := by decide +kernel
theorem d_S_overtake_16 : decode c_S_overtake 16 = .ok (.iconst 0, 1) := by decide +kernel
theorem d_S_overtake_17 : decode c_S_overtake 17 = .ok (.istore 4, 2) := by decide +kernel
theorem d_S_overtake_19 : decode c_S_overtake 19 = .ok (.iload 4, 2) := by decide +kernel
theorem d_S_overtake_21 : decode c_S_overtake 21 = .ok (.aload_n 0, 1) := by decide +kernel
theorem d_S_overtake_22 : decode c_S_overtake 22 = .ok (.getfield 56, 3) := by decide +kernel
theorem d_S_overtake_25 : decode c_S_overtake 25 = .ok (.if_icmp .ge 56, 3) := by decide +kernel
theorem d_S_overtake_28 : decode c_S_overtake 28 = .ok (.aload_n 0, 1) := by decide +kernel
theorem d_S_overtake_29 : decode c_S_overtake 29 = .ok (.iload 4, 2) := by decide +kernel
theorem d_S_overtake_31 : decode c_S_overtake 31 = .ok (.iconst 0, 1) := by decide +kernel
theorem d_S_overtake_32 : decode c_S_overtake 32 = .ok (.invokevirtual 83, 3) := by decide +kernel
theorem d_S_overtake_35 : decode c_S_overtake 35 = .ok (.iload_n 1, 1) := by decide +kernel
theorem d_S_overtake_36 : decode c_S_overtake 36 = .ok (.if_icmp .ge 8, 3) := by decide +kernel
theorem d_S_overtake_39 : decode c_S_overtake 39 = .ok (.iconst (-1), 1) := by decide +kernel
theorem d_S_overtake_40 : decode c_S_overtake 40 = .ok (.istore_n 3, 1) := by decide +kernel
theorem d_S_overtake_41 : decode c_S_overtake 41 = .ok (.goto 34, 3) := by decide +kernel
theorem d_S_overtake_44 : decode c_S_overtake 44 = .ok (.iload_n 3, 1) := by decide +kernel
theorem d_S_overtake_45 : decode c_S_overtake 45 = .ok (.iconst (-1), 1) := by decide +kernel
theorem d_S_overtake_46 : decode c_S_overtake 46 = .ok (.if_icmp .ne 8, 3) := by decide +kernel
theorem d_S_overtake_49 : decode c_S_overtake 49 = .ok (.iload 4, 2) := by decide +kernel
theorem d_S_overtake_51 : decode c_S_overtake 51 = .ok (.goto 4, 3) := by decide +kernel
theorem d_S_overtake_54 : decode c_S_overtake 54 = .ok (.iload_n 3, 1) := by decide +kernel
theorem d_S_overtake_55 : decode c_S_overtake 55 = .ok (.istore_n 3, 1) := by decide +kernel
theorem d_S_overtake_56 : decode c_S_overtake 56 = .ok (.iload_n 2, 1) := by decide +kernel
theorem d_S_overtake_57 : decode c_S_overtake 57 = .ok (.aload_n 0, 1) := by decide +kernel
theorem d_S_overtake_58 : decode c_S_overtake 58 = .ok (.getfield 19, 3) := by decide +kernel
theorem d_S_overtake_61 : decode c_S_overtake 61 = .ok (.iload 4, 2) := by decide +kernel
theorem d_S_overtake_63 : decode c_S_overtake 63 = .ok (.iaload, 1) := by decide +kernel
theorem d_S_overtake_64 : decode c_S_overtake 64 = .ok (.aload_n 0, 1) := by decide +kernel
theorem d_S_overtake_65 : decode c_S_overtake 65 = .ok (.getfield 19, 3) := by decide +kernel
theorem d_S_overtake_68 : decode c_S_overtake 68 = .ok (.iload_n 3, 1) := by decide +kernel
theorem d_S_overtake_69 : decode c_S_overtake 69 = .ok (.iaload, 1) := by decide +kernel
theorem d_S_overtake_70 : decode c_S_overtake 70 = .ok (.isub, 1) := by decide +kernel
theorem d_S_overtake_71 : decode c_S_overtake 71 = .ok (.invokestatic 102, 3) := by decide +kernel
theorem d_S_overtake_74 : decode c_S_overtake 74 = .ok (.istore_n 2, 1) := by decide +kernel
theorem d_S_overtake_75 : decode c_S_overtake 75 = .ok (.iinc 4 1, 3) := by decide +kernel
theorem d_S_overtake_78 : decode c_S_overtake 78 = .ok (.goto (-59), 3) := by decide +kernel
theorem d_S_overtake_81 : decode c_S_overtake 81 = .ok (.iload_n 2, 1) := by decide +kernel
theorem d_S_overtake_82 : decode c_S_overtake 82 = .ok (.ireturn, 1) := by decide +kernel
theorem d_S_seen_0 : decode c_S_seen 0 = .ok (.iload_n 1, 1) := by decide +kernel
theorem d_S_seen_1 : decode c_S_seen 1 = .ok (.iload_n 2, 1) := by decide +kernel
theorem d_S_seen_2 : decode c_S_seen 2 = .ok (.invokestatic 48, 3) := by decide +kernel
theorem d_S_seen_5 : decode c_S_seen 5 = .ok (.ifCond .eq 10, 3) := by decide +kernel
theorem d_S_seen_8 : decode c_S_seen 8 = .ok (.iload_n 3, 1) := by decide +kernel
theorem d_S_seen_9 : decode c_S_seen 9 = .ok (.invokestatic 52, 3) := by decide +kernel
theorem d_S_seen_12 : decode c_S_seen 12 = .ok (.ifCond .ne 5, 3) := by decide +kernel
theorem d_S_seen_15 : decode c_S_seen 15 = .ok (.iconst (-1), 1) := by decide +kernel
theorem d_S_seen_16 : decode c_S_seen 16 = .ok (.ireturn, 1) := by decide +kernel
theorem d_S_seen_17 : decode c_S_seen 17 = .ok (.iconst 0, 1) := by decide +kernel
theorem d_S_seen_18 : decode c_S_seen 18 = .ok (.istore 4, 2) := by decide +kernel
theorem d_S_seen_20 : decode c_S_seen 20 = .ok (.iconst 0, 1) := by decide +kernel
theorem d_S_seen_21 : decode c_S_seen 21 = .ok (.istore 5, 2) := by decide +kernel
theorem d_S_seen_23 : decode c_S_seen 23 = .ok (.iload 5, 2) := by decide +kernel
theorem d_S_seen_25 : decode c_S_seen 25 = .ok (.aload_n 0, 1) := by decide +kernel
theorem d_S_seen_26 : decode c_S_seen 26 = .ok (.getfield 56, 3) := by decide +kernel
theorem d_S_seen_29 : decode c_S_seen 29 = .ok (.if_icmp .ge 94, 3) := by decide +kernel
theorem d_S_seen_32 : decode c_S_seen 32 = .ok (.iload_n 1, 1) := by decide +kernel
theorem d_S_seen_33 : decode c_S_seen 33 = .ok (.aload_n 0, 1) := by decide +kernel
theorem d_S_seen_34 : decode c_S_seen 34 = .ok (.getfield 9, 3) := by decide +kernel
theorem d_S_seen_37 : decode c_S_seen 37 = .ok (.iload 5, 2) := by decide +kernel
theorem d_S_seen_39 : decode c_S_seen 39 = .ok (.iaload, 1) := by decide +kernel
theorem d_S_seen_40 : decode c_S_seen 40 = .ok (.isub, 1) := by decide +kernel
theorem d_S_seen_41 : decode c_S_seen 41 = .ok (.i2l, 1) := by decide +kernel
theorem d_S_seen_42 : decode c_S_seen 42 = .ok (.iload_n 2, 1) := by decide +kernel
theorem d_S_seen_43 : decode c_S_seen 43 = .ok (.aload_n 0, 1) := by decide +kernel
theorem d_S_seen_44 : decode c_S_seen 44 = .ok (.getfield 13, 3) := by decide +kernel
theorem d_S_seen_47 : decode c_S_seen 47 = .ok (.iload 5, 2) := by decide +kernel
theorem d_S_seen_49 : decode c_S_seen 49 = .ok (.iaload, 1) := by decide +kernel
theorem d_S_seen_50 : decode c_S_seen 50 = .ok (.isub, 1) := by decide +kernel
theorem d_S_seen_51 : decode c_S_seen 51 = .ok (.i2l, 1) := by decide +kernel
theorem d_S_seen_52 : decode c_S_seen 52 = .ok (.invokestatic 107, 3) := by decide +kernel
theorem d_S_seen_55 : decode c_S_seen 55 = .ok (.ldc2_w 111, 3) := by decide +kernel
theorem d_S_seen_58 : decode c_S_seen 58 = .ok (.lcmp, 1) := by decide +kernel
theorem d_S_seen_59 : decode c_S_seen 59 = .ok (.ifCond .gt 7, 3) := by decide +kernel
theorem d_S_seen_62 : decode c_S_seen 62 = .ok (.iconst 1, 1) := by decide +kernel
theorem d_S_seen_63 : decode c_S_seen 63 = .ok (.goto 4, 3) := by decide +kernel
theorem d_S_seen_66 : decode c_S_seen 66 = .ok (.iconst 0, 1) := by decide +kernel
theorem d_S_seen_67 : decode c_S_seen 67 = .ok (.istore 6, 2) := by decide +kernel
theorem d_S_seen_69 : decode c_S_seen 69 = .ok (.iload 6, 2) := by decide +kernel
theorem d_S_seen_71 : decode c_S_seen 71 = .ok (.ifCond .eq 46, 3) := by decide +kernel
theorem d_S_seen_74 : decode c_S_seen 74 = .ok (.aload_n 0, 1) := by decide +kernel
theorem d_S_seen_75 : decode c_S_seen 75 = .ok (.getfield 31, 3) := by decide +kernel
theorem d_S_seen_78 : decode c_S_seen 78 = .ok (.aload_n 0, 1) := by decide +kernel
theorem d_S_seen_79 : decode c_S_seen 79 = .ok (.getfield 9, 3) := by decide +kernel
theorem d_S_seen_82 : decode c_S_seen 82 = .ok (.iload 5, 2) := by decide +kernel
theorem d_S_seen_84 : decode c_S_seen 84 = .ok (.iaload, 1) := by decide +kernel
theorem d_S_seen_85 : decode c_S_seen 85 = .ok (.aload_n 0, 1) := by decide +kernel
theorem d_S_seen_86 : decode c_S_seen 86 = .ok (.getfield 13, 3) := by decide +kernel
theorem d_S_seen_89 : decode c_S_seen 89 = .ok (.iload 5, 2) := by decide +kernel
theorem d_S_seen_91 : decode c_S_seen 91 = .ok (.iaload, 1) := by decide +kernel
theorem d_S_seen_92 : decode c_S_seen 92 = .ok (.aload_n 0, 1) := by decide +kernel
theorem d_S_seen_93 : decode c_S_seen 93 = .ok (.getfield 16, 3) := by decide +kernel
theorem d_S_seen_96 : decode c_S_seen 96 = .ok (.iload 5, 2) := by decide +kernel
theorem d_S_seen_98 : decode c_S_seen 98 = .ok (.iaload, 1) := by decide +kernel
theorem d_S_seen_99 : decode c_S_seen 99 = .ok (.aload_n 0, 1) := by decide +kernel
theorem d_S_seen_100 : decode c_S_seen 100 = .ok (.getfield 35, 3) := by decide +kernel
theorem d_S_seen_103 : decode c_S_seen 103 = .ok (.iadd, 1) := by decide +kernel
theorem d_S_seen_104 : decode c_S_seen 104 = .ok (.iload_n 1, 1) := by decide +kernel
theorem d_S_seen_105 : decode c_S_seen 105 = .ok (.iload_n 2, 1) := by decide +kernel
theorem d_S_seen_106 : decode c_S_seen 106 = .ok (.iload_n 3, 1) := by decide +kernel
theorem d_S_seen_107 : decode c_S_seen 107 = .ok (.invokevirtual 113, 3) := by decide +kernel
theorem d_S_seen_110 : decode c_S_seen 110 = .ok (.iconst (-1), 1) := by decide +kernel
theorem d_S_seen_111 : decode c_S_seen 111 = .ok (.if_icmp .ne 6, 3) := by decide +kernel
theorem d_S_seen_114 : decode c_S_seen 114 = .ok (.iinc 4 1, 3) := by decide +kernel
theorem d_S_seen_117 : decode c_S_seen 117 = .ok (.iinc 5 1, 3) := by decide +kernel
theorem d_S_seen_120 : decode c_S_seen 120 = .ok (.goto (-97), 3) := by decide +kernel
theorem d_S_seen_123 : decode c_S_seen 123 = .ok (.iload 4, 2) := by decide +kernel
theorem d_S_seen_125 : decode c_S_seen 125 = .ok (.ireturn, 1) := by decide +kernel
theorem d_S_light_0 : decode c_S_light 0 = .ok (.aload_n 0, 1) := by decide +kernel
theorem d_S_light_1 : decode c_S_light 1 = .ok (.iload_n 1, 1) := by decide +kernel
theorem d_S_light_2 : decode c_S_light 2 = .ok (.invokevirtual 67, 3) := by decide +kernel
theorem d_S_light_5 : decode c_S_light 5 = .ok (.ifCond .eq 24, 3) := by decide +kernel
theorem d_S_light_8 : decode c_S_light 8 = .ok (.iload_n 2, 1) := by decide +kernel
theorem d_S_light_9 : decode c_S_light 9 = .ok (.iconst 0, 1) := by decide +kernel
theorem d_S_light_10 : decode c_S_light 10 = .ok (.sipush 1000, 3) := by decide +kernel
theorem d_S_light_13 : decode c_S_light 13 = .ok (.invokestatic 63, 3) := by decide +kernel
theorem d_S_light_16 : decode c_S_light 16 = .ok (.ifCond .eq 13, 3) := by decide +kernel
theorem d_S_light_19 : decode c_S_light 19 = .ok (.iload_n 3, 1) := by decide +kernel
theorem d_S_light_20 : decode c_S_light 20 = .ok (.iconst 0, 1) := by decide +kernel
theorem d_S_light_21 : decode c_S_light 21 = .ok (.bipush 100, 2) := by decide +kernel
theorem d_S_light_23 : decode c_S_light 23 = .ok (.invokestatic 63, 3) := by decide +kernel
theorem d_S_light_26 : decode c_S_light 26 = .ok (.ifCond .ne 5, 3) := by decide +kernel
theorem d_S_light_29 : decode c_S_light 29 = .ok (.iconst (-1), 1) := by decide +kernel
theorem d_S_light_30 : decode c_S_light 30 = .ok (.ireturn, 1) := by decide +kernel
theorem d_S_light_31 : decode c_S_light 31 = .ok (.iconst 0, 1) := by decide +kernel
theorem d_S_light_32 : decode c_S_light 32 = .ok (.istore 4, 2) := by decide +kernel
theorem d_S_light_34 : decode c_S_light 34 = .ok (.iload_n 1, 1) := by decide +kernel
theorem d_S_light_35 : decode c_S_light 35 = .ok (.iconst 1, 1) := by decide +kernel
theorem d_S_light_36 : decode c_S_light 36 = .ok (.iadd, 1) := by decide +kernel
theorem d_S_light_37 : decode c_S_light 37 = .ok (.istore 5, 2) := by decide +kernel
theorem d_S_light_39 : decode c_S_light 39 = .ok (.iload 5, 2) := by decide +kernel
theorem d_S_light_41 : decode c_S_light 41 = .ok (.aload_n 0, 1) := by decide +kernel
theorem d_S_light_42 : decode c_S_light 42 = .ok (.getfield 56, 3) := by decide +kernel
theorem d_S_light_45 : decode c_S_light 45 = .ok (.if_icmp .ge 68, 3) := by decide +kernel
theorem d_S_light_48 : decode c_S_light 48 = .ok (.aload_n 0, 1) := by decide +kernel
theorem d_S_light_49 : decode c_S_light 49 = .ok (.getfield 19, 3) := by decide +kernel
theorem d_S_light_52 : decode c_S_light 52 = .ok (.iload 5, 2) := by decide +kernel
theorem d_S_light_54 : decode c_S_light 54 = .ok (.iaload, 1) := by decide +kernel
theorem d_S_light_55 : decode c_S_light 55 = .ok (.aload_n 0, 1) := by decide +kernel
theorem d_S_light_56 : decode c_S_light 56 = .ok (.getfield 19, 3) := by decide +kernel
theorem d_S_light_59 : decode c_S_light 59 = .ok (.iload_n 1, 1) := by decide +kernel
theorem d_S_light_60 : decode c_S_light 60 = .ok (.iaload, 1) := by decide +kernel
theorem d_S_light_61 : decode c_S_light 61 = .ok (.isub, 1) := by decide +kernel
theorem d_S_light_62 : decode c_S_light 62 = .ok (.istore 6, 2) := by decide +kernel
theorem d_S_light_64 : decode c_S_light 64 = .ok (.aload_n 0, 1) := by decide +kernel
theorem d_S_light_65 : decode c_S_light 65 = .ok (.getfield 16, 3) := by decide +kernel
theorem d_S_light_68 : decode c_S_light 68 = .ok (.iload_n 1, 1) := by decide +kernel
theorem d_S_light_69 : decode c_S_light 69 = .ok (.iaload, 1) := by decide +kernel
theorem d_S_light_70 : decode c_S_light 70 = .ok (.iload_n 2, 1) := by decide +kernel
theorem d_S_light_71 : decode c_S_light 71 = .ok (.iadd, 1) := by decide +kernel
theorem d_S_light_72 : decode c_S_light 72 = .ok (.i2l, 1) := by decide +kernel
theorem d_S_light_73 : decode c_S_light 73 = .ok (.iload_n 3, 1) := by decide +kernel
theorem d_S_light_74 : decode c_S_light 74 = .ok (.i2l, 1) := by decide +kernel
theorem d_S_light_75 : decode c_S_light 75 = .ok (.iload 6, 2) := by decide +kernel
theorem d_S_light_77 : decode c_S_light 77 = .ok (.i2l, 1) := by decide +kernel
theorem d_S_light_78 : decode c_S_light 78 = .ok (.lmul, 1) := by decide +kernel
theorem d_S_light_79 : decode c_S_light 79 = .ok (.ldc2_w 117, 3) := by decide +kernel
theorem d_S_light_82 : decode c_S_light 82 = .ok (.ldiv, 1) := by decide +kernel
theorem d_S_light_83 : decode c_S_light 83 = .ok (.ladd, 1) := by decide +kernel
theorem d_S_light_84 : decode c_S_light 84 = .ok (.lstore 7, 2) := by decide +kernel
theorem d_S_light_86 : decode c_S_light 86 = .ok (.aload_n 0, 1) := by decide +kernel
theorem d_S_light_87 : decode c_S_light 87 = .ok (.getfield 16, 3) := by decide +kernel
theorem d_S_light_90 : decode c_S_light 90 = .ok (.iload 5, 2) := by decide +kernel
theorem d_S_light_92 : decode c_S_light 92 = .ok (.iaload, 1) := by decide +kernel
theorem d_S_light_93 : decode c_S_light 93 = .ok (.i2l, 1) := by decide +kernel
theorem d_S_light_94 : decode c_S_light 94 = .ok (.lload 7, 2) := by decide +kernel
theorem d_S_light_96 : decode c_S_light 96 = .ok (.lcmp, 1) := by decide +kernel
theorem d_S_light_97 : decode c_S_light 97 = .ok (.ifCond .le 6, 3) := by decide +kernel
theorem d_S_light_100 : decode c_S_light 100 = .ok (.iload 4, 2) := by decide +kernel
theorem d_S_light_102 : decode c_S_light 102 = .ok (.ireturn, 1) := by decide +kernel
theorem d_S_light_103 : decode c_S_light 103 = .ok (.iload 6, 2) := by decide +kernel
theorem d_S_light_105 : decode c_S_light 105 = .ok (.istore 4, 2) := by decide +kernel
theorem d_S_light_107 : decode c_S_light 107 = .ok (.iinc 5 1, 3) := by decide +kernel
theorem d_S_light_110 : decode c_S_light 110 = .ok (.goto (-71), 3) := by decide +kernel
theorem d_S_light_113 : decode c_S_light 113 = .ok (.iload 4, 2) := by decide +kernel
theorem d_S_light_115 : decode c_S_light 115 = .ok (.ireturn, 1) := by decide +kernel
theorem d_S_count_0 : decode c_S_count 0 = .ok (.iload_n 1, 1) := by decide +kernel
theorem d_S_count_1 : decode c_S_count 1 = .ok (.tableswitch 74 0 5 #[39, 44, 52, 57, 62, 68], 39) := by decide +kernel
theorem d_S_count_40 : decode c_S_count 40 = .ok (.aload_n 0, 1) := by decide +kernel
theorem d_S_count_41 : decode c_S_count 41 = .ok (.getfield 56, 3) := by decide +kernel
theorem d_S_count_44 : decode c_S_count 44 = .ok (.ireturn, 1) := by decide +kernel
theorem d_S_count_45 : decode c_S_count 45 = .ok (.aload_n 0, 1) := by decide +kernel
theorem d_S_count_46 : decode c_S_count 46 = .ok (.getfield 31, 3) := by decide +kernel
theorem d_S_count_49 : decode c_S_count 49 = .ok (.getfield 119, 3) := by decide +kernel
theorem d_S_count_52 : decode c_S_count 52 = .ok (.ireturn, 1) := by decide +kernel
theorem d_S_count_53 : decode c_S_count 53 = .ok (.aload_n 0, 1) := by decide +kernel
theorem d_S_count_54 : decode c_S_count 54 = .ok (.getfield 73, 3) := by decide +kernel
theorem d_S_count_57 : decode c_S_count 57 = .ok (.ireturn, 1) := by decide +kernel
theorem d_S_count_58 : decode c_S_count 58 = .ok (.aload_n 0, 1) := by decide +kernel
theorem d_S_count_59 : decode c_S_count 59 = .ok (.invokevirtual 122, 3) := by decide +kernel
theorem d_S_count_62 : decode c_S_count 62 = .ok (.ireturn, 1) := by decide +kernel
theorem d_S_count_63 : decode c_S_count 63 = .ok (.aload_n 0, 1) := by decide +kernel
theorem d_S_count_64 : decode c_S_count 64 = .ok (.iconst 0, 1) := by decide +kernel
theorem d_S_count_65 : decode c_S_count 65 = .ok (.invokevirtual 126, 3) := by decide +kernel
theorem d_S_count_68 : decode c_S_count 68 = .ok (.ireturn, 1) := by decide +kernel
theorem d_S_count_69 : decode c_S_count 69 = .ok (.aload_n 0, 1) := by decide +kernel
theorem d_S_count_70 : decode c_S_count 70 = .ok (.iconst 1, 1) := by decide +kernel
theorem d_S_count_71 : decode c_S_count 71 = .ok (.invokevirtual 126, 3) := by decide +kernel
theorem d_S_count_74 : decode c_S_count 74 = .ok (.ireturn, 1) := by decide +kernel
theorem d_S_count_75 : decode c_S_count 75 = .ok (.iconst (-1), 1) := by decide +kernel
theorem d_S_count_76 : decode c_S_count 76 = .ok (.ireturn, 1) := by decide +kernel
theorem d_S_isWithin_0 : decode c_S_isWithin 0 = .ok (.iload_n 0, 1) := by decide +kernel
theorem d_S_isWithin_1 : decode c_S_isWithin 1 = .ok (.iload_n 1, 1) := by decide +kernel
theorem d_S_isWithin_2 : decode c_S_isWithin 2 = .ok (.if_icmp .lt 12, 3) := by decide +kernel
theorem d_S_isWithin_5 : decode c_S_isWithin 5 = .ok (.iload_n 0, 1) := by decide +kernel
theorem d_S_isWithin_6 : decode c_S_isWithin 6 = .ok (.iload_n 2, 1) := by decide +kernel
theorem d_S_isWithin_7 : decode c_S_isWithin 7 = .ok (.if_icmp .gt 7, 3) := by decide +kernel
theorem d_S_isWithin_10 : decode c_S_isWithin 10 = .ok (.iconst 1, 1) := by decide +kernel
theorem d_S_isWithin_11 : decode c_S_isWithin 11 = .ok (.goto 4, 3) := by decide +kernel
theorem d_S_isWithin_14 : decode c_S_isWithin 14 = .ok (.iconst 0, 1) := by decide +kernel
theorem d_S_isWithin_15 : decode c_S_isWithin 15 = .ok (.ireturn, 1) := by decide +kernel
theorem d_S_isInPlane_0 : decode c_S_isInPlane 0 = .ok (.iload_n 0, 1) := by decide +kernel
theorem d_S_isInPlane_1 : decode c_S_isInPlane 1 = .ok (.sipush (-15000), 3) := by decide +kernel
theorem d_S_isInPlane_4 : decode c_S_isInPlane 4 = .ok (.sipush 15000, 3) := by decide +kernel
theorem d_S_isInPlane_7 : decode c_S_isInPlane 7 = .ok (.invokestatic 63, 3) := by decide +kernel
theorem d_S_isInPlane_10 : decode c_S_isInPlane 10 = .ok (.ifCond .eq 20, 3) := by decide +kernel
theorem d_S_isInPlane_13 : decode c_S_isInPlane 13 = .ok (.iload_n 1, 1) := by decide +kernel
theorem d_S_isInPlane_14 : decode c_S_isInPlane 14 = .ok (.sipush (-15000), 3) := by decide +kernel
theorem d_S_isInPlane_17 : decode c_S_isInPlane 17 = .ok (.sipush 15000, 3) := by decide +kernel
theorem d_S_isInPlane_20 : decode c_S_isInPlane 20 = .ok (.invokestatic 63, 3) := by decide +kernel
theorem d_S_isInPlane_23 : decode c_S_isInPlane 23 = .ok (.ifCond .eq 7, 3) := by decide +kernel
theorem d_S_isInPlane_26 : decode c_S_isInPlane 26 = .ok (.iconst 1, 1) := by decide +kernel
theorem d_S_isInPlane_27 : decode c_S_isInPlane 27 = .ok (.goto 4, 3) := by decide +kernel
theorem d_S_isInPlane_30 : decode c_S_isInPlane 30 = .ok (.iconst 0, 1) := by decide +kernel
theorem d_S_isInPlane_31 : decode c_S_isInPlane 31 = .ok (.ireturn, 1) := by decide +kernel
theorem d_S_isLevel_0 : decode c_S_isLevel 0 = .ok (.iload_n 0, 1) := by decide +kernel
theorem d_S_isLevel_1 : decode c_S_isLevel 1 = .ok (.ldc 130, 2) := by decide +kernel
theorem d_S_isLevel_3 : decode c_S_isLevel 3 = .ok (.ldc 131, 2) := by decide +kernel
theorem d_S_isLevel_5 : decode c_S_isLevel 5 = .ok (.invokestatic 63, 3) := by decide +kernel
theorem d_S_isLevel_8 : decode c_S_isLevel 8 = .ok (.ireturn, 1) := by decide +kernel
theorem d_S_isSide_0 : decode c_S_isSide 0 = .ok (.iload_n 0, 1) := by decide +kernel
theorem d_S_isSide_1 : decode c_S_isSide 1 = .ok (.ifCond .eq 8, 3) := by decide +kernel
theorem d_S_isSide_4 : decode c_S_isSide 4 = .ok (.iload_n 0, 1) := by decide +kernel
theorem d_S_isSide_5 : decode c_S_isSide 5 = .ok (.iconst 1, 1) := by decide +kernel
theorem d_S_isSide_6 : decode c_S_isSide 6 = .ok (.if_icmp .ne 7, 3) := by decide +kernel
theorem d_S_isSide_9 : decode c_S_isSide 9 = .ok (.iconst 1, 1) := by decide +kernel
theorem d_S_isSide_10 : decode c_S_isSide 10 = .ok (.goto 4, 3) := by decide +kernel
theorem d_S_isSide_13 : decode c_S_isSide 13 = .ok (.iconst 0, 1) := by decide +kernel
theorem d_S_isSide_14 : decode c_S_isSide 14 = .ok (.ireturn, 1) := by decide +kernel
theorem d_S_isStation_0 : decode c_S_isStation 0 = .ok (.iload_n 1, 1) := by decide +kernel
theorem d_S_isStation_1 : decode c_S_isStation 1 = .ok (.ifCond .lt 15, 3) := by decide +kernel
theorem d_S_isStation_4 : decode c_S_isStation 4 = .ok (.iload_n 1, 1) := by decide +kernel
theorem d_S_isStation_5 : decode c_S_isStation 5 = .ok (.aload_n 0, 1) := by decide +kernel
theorem d_S_isStation_6 : decode c_S_isStation 6 = .ok (.getfield 56, 3) := by decide +kernel
theorem d_S_isStation_9 : decode c_S_isStation 9 = .ok (.if_icmp .ge 7, 3) := by decide +kernel
theorem d_S_isStation_12 : decode c_S_isStation 12 = .ok (.iconst 1, 1) := by decide +kernel
theorem d_S_isStation_13 : decode c_S_isStation 13 = .ok (.goto 4, 3) := by decide +kernel
theorem d_S_isStation_16 : decode c_S_isStation 16 = .ok (.iconst 0, 1) := by decide +kernel
theorem d_S_isStation_17 : decode c_S_isStation 17 = .ok (.ireturn, 1) := by decide +kernel
theorem d_S_squareOf_0 : decode c_S_squareOf 0 = .ok (.lload_n 0, 1) := by decide +kernel
theorem d_S_squareOf_1 : decode c_S_squareOf 1 = .ok (.lload_n 0, 1) := by decide +kernel
theorem d_S_squareOf_2 : decode c_S_squareOf 2 = .ok (.lmul, 1) := by decide +kernel
theorem d_S_squareOf_3 : decode c_S_squareOf 3 = .ok (.lload_n 2, 1) := by decide +kernel
theorem d_S_squareOf_4 : decode c_S_squareOf 4 = .ok (.lload_n 2, 1) := by decide +kernel
theorem d_S_squareOf_5 : decode c_S_squareOf 5 = .ok (.lmul, 1) := by decide +kernel
theorem d_S_squareOf_6 : decode c_S_squareOf 6 = .ok (.ladd, 1) := by decide +kernel
theorem d_S_squareOf_7 : decode c_S_squareOf 7 = .ok (.lreturn, 1) := by decide +kernel
theorem d_S_squareBetween_0 : decode c_S_squareBetween 0 = .ok (.aload_n 0, 1) := by decide +kernel
theorem d_S_squareBetween_1 : decode c_S_squareBetween 1 = .ok (.getfield 9, 3) := by decide +kernel
theorem d_S_squareBetween_4 : decode c_S_squareBetween 4 = .ok (.iload_n 2, 1) := by decide +kernel
theorem d_S_squareBetween_5 : decode c_S_squareBetween 5 = .ok (.iaload, 1) := by decide +kernel
theorem d_S_squareBetween_6 : decode c_S_squareBetween 6 = .ok (.aload_n 0, 1) := by decide +kernel
theorem d_S_squareBetween_7 : decode c_S_squareBetween 7 = .ok (.getfield 9, 3) := by decide +kernel
theorem d_S_squareBetween_10 : decode c_S_squareBetween 10 = .ok (.iload_n 1, 1) := by decide +kernel
theorem d_S_squareBetween_11 : decode c_S_squareBetween 11 = .ok (.iaload, 1) := by decide +kernel
theorem d_S_squareBetween_12 : decode c_S_squareBetween 12 = .ok (.isub, 1) := by decide +kernel
theorem d_S_squareBetween_13 : decode c_S_squareBetween 13 = .ok (.i2l, 1) := by decide +kernel
theorem d_S_squareBetween_14 : decode c_S_squareBetween 14 = .ok (.aload_n 0, 1) := by decide +kernel
theorem d_S_squareBetween_15 : decode c_S_squareBetween 15 = .ok (.getfield 13, 3) := by decide +kernel
theorem d_S_squareBetween_18 : decode c_S_squareBetween 18 = .ok (.iload_n 2, 1) := by decide +kernel
theorem d_S_squareBetween_19 : decode c_S_squareBetween 19 = .ok (.iaload, 1) := by decide +kernel
theorem d_S_squareBetween_20 : decode c_S_squareBetween 20 = .ok (.aload_n 0, 1) := by decide +kernel
theorem d_S_squareBetween_21 : decode c_S_squareBetween 21 = .ok (.getfield 13, 3) := by decide +kernel
theorem d_S_squareBetween_24 : decode c_S_squareBetween 24 = .ok (.iload_n 1, 1) := by decide +kernel
theorem d_S_squareBetween_25 : decode c_S_squareBetween 25 = .ok (.iaload, 1) := by decide +kernel
theorem d_S_squareBetween_26 : decode c_S_squareBetween 26 = .ok (.isub, 1) := by decide +kernel
theorem d_S_squareBetween_27 : decode c_S_squareBetween 27 = .ok (.i2l, 1) := by decide +kernel
theorem d_S_squareBetween_28 : decode c_S_squareBetween 28 = .ok (.invokestatic 107, 3) := by decide +kernel
theorem d_S_squareBetween_31 : decode c_S_squareBetween 31 = .ok (.lreturn, 1) := by decide +kernel
theorem d_S_stepBetween_0 : decode c_S_stepBetween 0 = .ok (.iconst 1, 1) := by decide +kernel
theorem d_S_stepBetween_1 : decode c_S_stepBetween 1 = .ok (.aload_n 0, 1) := by decide +kernel
theorem d_S_stepBetween_2 : decode c_S_stepBetween 2 = .ok (.iload_n 1, 1) := by decide +kernel
theorem d_S_stepBetween_3 : decode c_S_stepBetween 3 = .ok (.iload_n 2, 1) := by decide +kernel
theorem d_S_stepBetween_4 : decode c_S_stepBetween 4 = .ok (.invokevirtual 132, 3) := by decide +kernel
theorem d_S_stepBetween_7 : decode c_S_stepBetween 7 = .ok (.invokestatic 136, 3) := by decide +kernel
theorem d_S_stepBetween_10 : decode c_S_stepBetween 10 = .ok (.invokestatic 102, 3) := by decide +kernel
theorem d_S_stepBetween_13 : decode c_S_stepBetween 13 = .ok (.ireturn, 1) := by decide +kernel
theorem d_S_rootOf_0 : decode c_S_rootOf 0 = .ok (.iconst 0, 1) := by decide +kernel
theorem d_S_rootOf_1 : decode c_S_rootOf 1 = .ok (.istore_n 2, 1) := by decide +kernel
theorem d_S_rootOf_2 : decode c_S_rootOf 2 = .ok (.bipush 15, 2) := by decide +kernel
theorem d_S_rootOf_4 : decode c_S_rootOf 4 = .ok (.istore_n 3, 1) := by decide +kernel
theorem d_S_rootOf_5 : decode c_S_rootOf 5 = .ok (.iload_n 3, 1) := by decide +kernel
theorem d_S_rootOf_6 : decode c_S_rootOf 6 = .ok (.ifCond .lt 31, 3) := by decide +kernel
theorem d_S_rootOf_9 : decode c_S_rootOf 9 = .ok (.iload_n 2, 1) := by decide +kernel
theorem d_S_rootOf_10 : decode c_S_rootOf 10 = .ok (.iconst 1, 1) := by decide +kernel
theorem d_S_rootOf_11 : decode c_S_rootOf 11 = .ok (.iload_n 3, 1) := by decide +kernel
theorem d_S_rootOf_12 : decode c_S_rootOf 12 = .ok (.ishl, 1) := by decide +kernel
theorem d_S_rootOf_13 : decode c_S_rootOf 13 = .ok (.iadd, 1) := by decide +kernel
theorem d_S_rootOf_14 : decode c_S_rootOf 14 = .ok (.i2l, 1) := by decide +kernel
theorem d_S_rootOf_15 : decode c_S_rootOf 15 = .ok (.lstore 4, 2) := by decide +kernel
theorem d_S_rootOf_17 : decode c_S_rootOf 17 = .ok (.lload 4, 2) := by decide +kernel
theorem d_S_rootOf_19 : decode c_S_rootOf 19 = .ok (.lload 4, 2) := by decide +kernel
theorem d_S_rootOf_21 : decode c_S_rootOf 21 = .ok (.lmul, 1) := by decide +kernel
theorem d_S_rootOf_22 : decode c_S_rootOf 22 = .ok (.lload_n 0, 1) := by decide +kernel
theorem d_S_rootOf_23 : decode c_S_rootOf 23 = .ok (.lcmp, 1) := by decide +kernel
theorem d_S_rootOf_24 : decode c_S_rootOf 24 = .ok (.ifCond .gt 7, 3) := by decide +kernel
theorem d_S_rootOf_27 : decode c_S_rootOf 27 = .ok (.lload 4, 2) := by decide +kernel
theorem d_S_rootOf_29 : decode c_S_rootOf 29 = .ok (.l2i, 1) := by decide +kernel
theorem d_S_rootOf_30 : decode c_S_rootOf 30 = .ok (.istore_n 2, 1) := by decide +kernel
theorem d_S_rootOf_31 : decode c_S_rootOf 31 = .ok (.iinc 3 (-1), 3) := by decide +kernel
theorem d_S_rootOf_34 : decode c_S_rootOf 34 = .ok (.goto (-29), 3) := by decide +kernel
theorem d_S_rootOf_37 : decode c_S_rootOf 37 = .ok (.iload_n 2, 1) := by decide +kernel
theorem d_S_rootOf_38 : decode c_S_rootOf 38 = .ok (.ireturn, 1) := by decide +kernel
theorem d_S_interruption_0 : decode c_S_interruption 0 = .ok (.iload_n 1, 1) := by decide +kernel
theorem d_S_interruption_1 : decode c_S_interruption 1 = .ok (.iload_n 2, 1) := by decide +kernel
theorem d_S_interruption_2 : decode c_S_interruption 2 = .ok (.invokestatic 140, 3) := by decide +kernel
theorem d_S_interruption_5 : decode c_S_interruption 5 = .ok (.istore_n 3, 1) := by decide +kernel
theorem d_S_interruption_6 : decode c_S_interruption 6 = .ok (.iload_n 1, 1) := by decide +kernel
theorem d_S_interruption_7 : decode c_S_interruption 7 = .ok (.iload_n 2, 1) := by decide +kernel
theorem d_S_interruption_8 : decode c_S_interruption 8 = .ok (.invokestatic 102, 3) := by decide +kernel
theorem d_S_interruption_11 : decode c_S_interruption 11 = .ok (.istore 4, 2) := by decide +kernel
theorem d_S_interruption_13 : decode c_S_interruption 13 = .ok (.iload_n 3, 1) := by decide +kernel
theorem d_S_interruption_14 : decode c_S_interruption 14 = .ok (.iconst 1, 1) := by decide +kernel
theorem d_S_interruption_15 : decode c_S_interruption 15 = .ok (.iadd, 1) := by decide +kernel
theorem d_S_interruption_16 : decode c_S_interruption 16 = .ok (.istore 5, 2) := by decide +kernel
theorem d_S_interruption_18 : decode c_S_interruption 18 = .ok (.iload 5, 2) := by decide +kernel
theorem d_S_interruption_20 : decode c_S_interruption 20 = .ok (.iload 4, 2) := by decide +kernel
theorem d_S_interruption_22 : decode c_S_interruption 22 = .ok (.if_icmp .ge 26, 3) := by decide +kernel
theorem d_S_interruption_25 : decode c_S_interruption 25 = .ok (.aload_n 0, 1) := by decide +kernel
theorem d_S_interruption_26 : decode c_S_interruption 26 = .ok (.iload_n 1, 1) := by decide +kernel
theorem d_S_interruption_27 : decode c_S_interruption 27 = .ok (.iload_n 2, 1) := by decide +kernel
theorem d_S_interruption_28 : decode c_S_interruption 28 = .ok (.iload 5, 2) := by decide +kernel
theorem d_S_interruption_30 : decode c_S_interruption 30 = .ok (.invokevirtual 143, 3) := by decide +kernel
theorem d_S_interruption_33 : decode c_S_interruption 33 = .ok (.ifCond .eq 9, 3) := by decide +kernel
theorem d_S_interruption_36 : decode c_S_interruption 36 = .ok (.bipush 64, 2) := by decide +kernel
theorem d_S_interruption_38 : decode c_S_interruption 38 = .ok (.iload 5, 2) := by decide +kernel
theorem d_S_interruption_40 : decode c_S_interruption 40 = .ok (.iadd, 1) := by decide +kernel
theorem d_S_interruption_41 : decode c_S_interruption 41 = .ok (.ireturn, 1) := by decide +kernel
theorem d_S_interruption_42 : decode c_S_interruption 42 = .ok (.iinc 5 1, 3) := by decide +kernel
theorem d_S_interruption_45 : decode c_S_interruption 45 = .ok (.goto (-27), 3) := by decide +kernel
theorem d_S_interruption_48 : decode c_S_interruption 48 = .ok (.iload_n 3, 1) := by decide +kernel
theorem d_S_interruption_49 : decode c_S_interruption 49 = .ok (.iconst 1, 1) := by decide +kernel
theorem d_S_interruption_50 : decode c_S_interruption 50 = .ok (.iadd, 1) := by decide +kernel
theorem d_S_interruption_51 : decode c_S_interruption 51 = .ok (.istore 5, 2) := by decide +kernel
theorem d_S_interruption_53 : decode c_S_interruption 53 = .ok (.iload 5, 2) := by decide +kernel
theorem d_S_interruption_55 : decode c_S_interruption 55 = .ok (.iload 4, 2) := by decide +kernel
theorem d_S_interruption_57 : decode c_S_interruption 57 = .ok (.if_icmp .ge 28, 3) := by decide +kernel
theorem d_S_interruption_60 : decode c_S_interruption 60 = .ok (.aload_n 0, 1) := by decide +kernel
theorem d_S_interruption_61 : decode c_S_interruption 61 = .ok (.iload_n 3, 1) := by decide +kernel
theorem d_S_interruption_62 : decode c_S_interruption 62 = .ok (.iload 4, 2) := by decide +kernel
theorem d_S_interruption_64 : decode c_S_interruption 64 = .ok (.iload 5, 2) := by decide +kernel
theorem d_S_interruption_66 : decode c_S_interruption 66 = .ok (.invokevirtual 146, 3) := by decide +kernel
theorem d_S_interruption_69 : decode c_S_interruption 69 = .ok (.ifCond .eq 10, 3) := by decide +kernel
theorem d_S_interruption_72 : decode c_S_interruption 72 = .ok (.sipush 128, 3) := by decide +kernel
theorem d_S_interruption_75 : decode c_S_interruption 75 = .ok (.iload 5, 2) := by decide +kernel
theorem d_S_interruption_77 : decode c_S_interruption 77 = .ok (.iadd, 1) := by decide +kernel
theorem d_S_interruption_78 : decode c_S_interruption 78 = .ok (.ireturn, 1) := by decide +kernel
theorem d_S_interruption_79 : decode c_S_interruption 79 = .ok (.iinc 5 1, 3) := by decide +kernel
theorem d_S_interruption_82 : decode c_S_interruption 82 = .ok (.goto (-29), 3) := by decide +kernel
theorem d_S_interruption_85 : decode c_S_interruption 85 = .ok (.aload_n 0, 1) := by decide +kernel
theorem d_S_interruption_86 : decode c_S_interruption 86 = .ok (.getfield 31, 3) := by decide +kernel
theorem d_S_interruption_89 : decode c_S_interruption 89 = .ok (.aload_n 0, 1) := by decide +kernel
theorem d_S_interruption_90 : decode c_S_interruption 90 = .ok (.getfield 9, 3) := by decide +kernel
theorem d_S_interruption_93 : decode c_S_interruption 93 = .ok (.iload_n 1, 1) := by decide +kernel
theorem d_S_interruption_94 : decode c_S_interruption 94 = .ok (.iaload, 1) := by decide +kernel
theorem d_S_interruption_95 : decode c_S_interruption 95 = .ok (.aload_n 0, 1) := by decide +kernel
theorem d_S_interruption_96 : decode c_S_interruption 96 = .ok (.getfield 13, 3) := by decide +kernel
theorem d_S_interruption_99 : decode c_S_interruption 99 = .ok (.iload_n 1, 1) := by decide +kernel
theorem d_S_interruption_100 : decode c_S_interruption 100 = .ok (.iaload, 1) := by decide +kernel
theorem d_S_interruption_101 : decode c_S_interruption 101 = .ok (.aload_n 0, 1) := by decide +kernel
theorem d_S_interruption_102 : decode c_S_interruption 102 = .ok (.getfield 16, 3) := by decide +kernel
theorem d_S_interruption_105 : decode c_S_interruption 105 = .ok (.iload_n 1, 1) := by decide +kernel
theorem d_S_interruption_106 : decode c_S_interruption 106 = .ok (.iaload, 1) := by decide +kernel
theorem d_S_interruption_107 : decode c_S_interruption 107 = .ok (.aload_n 0, 1) := by decide +kernel
theorem d_S_interruption_108 : decode c_S_interruption 108 = .ok (.getfield 35, 3) := by decide +kernel
theorem d_S_interruption_111 : decode c_S_interruption 111 = .ok (.iadd, 1) := by decide +kernel
theorem d_S_interruption_112 : decode c_S_interruption 112 = .ok (.aload_n 0, 1) := by decide +kernel
theorem d_S_interruption_113 : decode c_S_interruption 113 = .ok (.getfield 9, 3) := by decide +kernel
theorem d_S_interruption_116 : decode c_S_interruption 116 = .ok (.iload_n 2, 1) := by decide +kernel
theorem d_S_interruption_117 : decode c_S_interruption 117 = .ok (.iaload, 1) := by decide +kernel
theorem d_S_interruption_118 : decode c_S_interruption 118 = .ok (.aload_n 0, 1) := by decide +kernel
theorem d_S_interruption_119 : decode c_S_interruption 119 = .ok (.getfield 13, 3) := by decide +kernel
theorem d_S_interruption_122 : decode c_S_interruption 122 = .ok (.iload_n 2, 1) := by decide +kernel
theorem d_S_interruption_123 : decode c_S_interruption 123 = .ok (.iaload, 1) := by decide +kernel
theorem d_S_interruption_124 : decode c_S_interruption 124 = .ok (.aload_n 0, 1) := by decide +kernel
theorem d_S_interruption_125 : decode c_S_interruption 125 = .ok (.getfield 16, 3) := by decide +kernel
theorem d_S_interruption_128 : decode c_S_interruption 128 = .ok (.iload_n 2, 1) := by decide +kernel
theorem d_S_interruption_129 : decode c_S_interruption 129 = .ok (.iaload, 1) := by decide +kernel
theorem d_S_interruption_130 : decode c_S_interruption 130 = .ok (.aload_n 0, 1) := by decide +kernel
theorem d_S_interruption_131 : decode c_S_interruption 131 = .ok (.getfield 39, 3) := by decide +kernel
theorem d_S_interruption_134 : decode c_S_interruption 134 = .ok (.iadd, 1) := by decide +kernel
theorem d_S_interruption_135 : decode c_S_interruption 135 = .ok (.invokevirtual 113, 3) := by decide +kernel
theorem d_S_interruption_138 : decode c_S_interruption 138 = .ok (.istore 5, 2) := by decide +kernel
theorem d_S_interruption_140 : decode c_S_interruption 140 = .ok (.iload 5, 2) := by decide +kernel
theorem d_S_interruption_142 : decode c_S_interruption 142 = .ok (.iconst (-1), 1) := by decide +kernel
theorem d_S_interruption_143 : decode c_S_interruption 143 = .ok (.if_icmp .ne 7, 3) := by decide +kernel
theorem d_S_interruption_146 : decode c_S_interruption 146 = .ok (.iconst 0, 1) := by decide +kernel
theorem d_S_interruption_147 : decode c_S_interruption 147 = .ok (.goto 9, 3) := by decide +kernel
theorem d_S_interruption_150 : decode c_S_interruption 150 = .ok (.sipush 192, 3) := by decide +kernel
theorem d_S_interruption_153 : decode c_S_interruption 153 = .ok (.iload 5, 2) := by decide +kernel
theorem d_S_interruption_155 : decode c_S_interruption 155 = .ok (.iadd, 1) := by decide +kernel
theorem d_S_interruption_156 : decode c_S_interruption 156 = .ok (.ireturn, 1) := by decide +kernel
theorem d_S_isGroundAbove_0 : decode c_S_isGroundAbove 0 = .ok (.aload_n 0, 1) := by decide +kernel
theorem d_S_isGroundAbove_1 : decode c_S_isGroundAbove 1 = .ok (.getfield 19, 3) := by decide +kernel
theorem d_S_isGroundAbove_4 : decode c_S_isGroundAbove 4 = .ok (.iload_n 2, 1) := by decide +kernel
theorem d_S_isGroundAbove_5 : decode c_S_isGroundAbove 5 = .ok (.iaload, 1) := by decide +kernel
theorem d_S_isGroundAbove_6 : decode c_S_isGroundAbove 6 = .ok (.aload_n 0, 1) := by decide +kernel
theorem d_S_isGroundAbove_7 : decode c_S_isGroundAbove 7 = .ok (.getfield 19, 3) := by decide +kernel
theorem d_S_isGroundAbove_10 : decode c_S_isGroundAbove 10 = .ok (.iload_n 1, 1) := by decide +kernel
theorem d_S_isGroundAbove_11 : decode c_S_isGroundAbove 11 = .ok (.iaload, 1) := by decide +kernel
theorem d_S_isGroundAbove_12 : decode c_S_isGroundAbove 12 = .ok (.isub, 1) := by decide +kernel
theorem d_S_isGroundAbove_13 : decode c_S_isGroundAbove 13 = .ok (.invokestatic 149, 3) := by decide +kernel
theorem d_S_isGroundAbove_16 : decode c_S_isGroundAbove 16 = .ok (.i2l, 1) := by decide +kernel
theorem d_S_isGroundAbove_17 : decode c_S_isGroundAbove 17 = .ok (.lstore 4, 2) := by decide +kernel
theorem d_S_isGroundAbove_19 : decode c_S_isGroundAbove 19 = .ok (.aload_n 0, 1) := by decide +kernel
theorem d_S_isGroundAbove_20 : decode c_S_isGroundAbove 20 = .ok (.getfield 19, 3) := by decide +kernel
theorem d_S_isGroundAbove_23 : decode c_S_isGroundAbove 23 = .ok (.iload_n 3, 1) := by decide +kernel
theorem d_S_isGroundAbove_24 : decode c_S_isGroundAbove 24 = .ok (.iaload, 1) := by decide +kernel
theorem d_S_isGroundAbove_25 : decode c_S_isGroundAbove 25 = .ok (.aload_n 0, 1) := by decide +kernel
theorem d_S_isGroundAbove_26 : decode c_S_isGroundAbove 26 = .ok (.getfield 19, 3) := by decide +kernel
theorem d_S_isGroundAbove_29 : decode c_S_isGroundAbove 29 = .ok (.iload_n 1, 1) := by decide +kernel
theorem d_S_isGroundAbove_30 : decode c_S_isGroundAbove 30 = .ok (.iaload, 1) := by decide +kernel
theorem d_S_isGroundAbove_31 : decode c_S_isGroundAbove 31 = .ok (.isub, 1) := by decide +kernel
theorem d_S_isGroundAbove_32 : decode c_S_isGroundAbove 32 = .ok (.invokestatic 149, 3) := by decide +kernel
theorem d_S_isGroundAbove_35 : decode c_S_isGroundAbove 35 = .ok (.i2l, 1) := by decide +kernel
theorem d_S_isGroundAbove_36 : decode c_S_isGroundAbove 36 = .ok (.lstore 6, 2) := by decide +kernel
theorem d_S_isGroundAbove_38 : decode c_S_isGroundAbove 38 = .ok (.lload 4, 2) := by decide +kernel
theorem d_S_isGroundAbove_40 : decode c_S_isGroundAbove 40 = .ok (.lload 6, 2) := by decide +kernel
theorem d_S_isGroundAbove_42 : decode c_S_isGroundAbove 42 = .ok (.lsub, 1) := by decide +kernel
theorem d_S_isGroundAbove_43 : decode c_S_isGroundAbove 43 = .ok (.aload_n 0, 1) := by decide +kernel
theorem d_S_isGroundAbove_44 : decode c_S_isGroundAbove 44 = .ok (.getfield 16, 3) := by decide +kernel
theorem d_S_isGroundAbove_47 : decode c_S_isGroundAbove 47 = .ok (.iload_n 1, 1) := by decide +kernel
theorem d_S_isGroundAbove_48 : decode c_S_isGroundAbove 48 = .ok (.iaload, 1) := by decide +kernel
theorem d_S_isGroundAbove_49 : decode c_S_isGroundAbove 49 = .ok (.aload_n 0, 1) := by decide +kernel
theorem d_S_isGroundAbove_50 : decode c_S_isGroundAbove 50 = .ok (.getfield 35, 3) := by decide +kernel
theorem d_S_isGroundAbove_53 : decode c_S_isGroundAbove 53 = .ok (.iadd, 1) := by decide +kernel
theorem d_S_isGroundAbove_54 : decode c_S_isGroundAbove 54 = .ok (.i2l, 1) := by decide +kernel
theorem d_S_isGroundAbove_55 : decode c_S_isGroundAbove 55 = .ok (.lmul, 1) := by decide +kernel
theorem d_S_isGroundAbove_56 : decode c_S_isGroundAbove 56 = .ok (.lload 6, 2) := by decide +kernel
theorem d_S_isGroundAbove_58 : decode c_S_isGroundAbove 58 = .ok (.aload_n 0, 1) := by decide +kernel
theorem d_S_isGroundAbove_59 : decode c_S_isGroundAbove 59 = .ok (.getfield 16, 3) := by decide +kernel
theorem d_S_isGroundAbove_62 : decode c_S_isGroundAbove 62 = .ok (.iload_n 2, 1) := by decide +kernel
theorem d_S_isGroundAbove_63 : decode c_S_isGroundAbove 63 = .ok (.iaload, 1) := by decide +kernel
theorem d_S_isGroundAbove_64 : decode c_S_isGroundAbove 64 = .ok (.aload_n 0, 1) := by decide +kernel
theorem d_S_isGroundAbove_65 : decode c_S_isGroundAbove 65 = .ok (.getfield 39, 3) := by decide +kernel
theorem d_S_isGroundAbove_68 : decode c_S_isGroundAbove 68 = .ok (.iadd, 1) := by decide +kernel
theorem d_S_isGroundAbove_69 : decode c_S_isGroundAbove 69 = .ok (.i2l, 1) := by decide +kernel
theorem d_S_isGroundAbove_70 : decode c_S_isGroundAbove 70 = .ok (.lmul, 1) := by decide +kernel
theorem d_S_isGroundAbove_71 : decode c_S_isGroundAbove 71 = .ok (.ladd, 1) := by decide +kernel
theorem d_S_isGroundAbove_72 : decode c_S_isGroundAbove 72 = .ok (.lstore 8, 2) := by decide +kernel
theorem d_S_isGroundAbove_74 : decode c_S_isGroundAbove 74 = .ok (.lload 4, 2) := by decide +kernel
theorem d_S_isGroundAbove_76 : decode c_S_isGroundAbove 76 = .ok (.aload_n 0, 1) := by decide +kernel
theorem d_S_isGroundAbove_77 : decode c_S_isGroundAbove 77 = .ok (.getfield 16, 3) := by decide +kernel
theorem d_S_isGroundAbove_80 : decode c_S_isGroundAbove 80 = .ok (.iload_n 3, 1) := by decide +kernel
theorem d_S_isGroundAbove_81 : decode c_S_isGroundAbove 81 = .ok (.iaload, 1) := by decide +kernel
theorem d_S_isGroundAbove_82 : decode c_S_isGroundAbove 82 = .ok (.i2l, 1) := by decide +kernel
theorem d_S_isGroundAbove_83 : decode c_S_isGroundAbove 83 = .ok (.lmul, 1) := by decide +kernel
theorem d_S_isGroundAbove_84 : decode c_S_isGroundAbove 84 = .ok (.lload 8, 2) := by decide +kernel
theorem d_S_isGroundAbove_86 : decode c_S_isGroundAbove 86 = .ok (.lcmp, 1) := by decide +kernel
theorem d_S_isGroundAbove_87 : decode c_S_isGroundAbove 87 = .ok (.ifCond .le 7, 3) := by decide +kernel
theorem d_S_isGroundAbove_90 : decode c_S_isGroundAbove 90 = .ok (.iconst 1, 1) := by decide +kernel
theorem d_S_isGroundAbove_91 : decode c_S_isGroundAbove 91 = .ok (.goto 4, 3) := by decide +kernel
theorem d_S_isGroundAbove_94 : decode c_S_isGroundAbove 94 = .ok (.iconst 0, 1) := by decide +kernel
theorem d_S_isGroundAbove_95 : decode c_S_isGroundAbove 95 = .ok (.ireturn, 1) := by decide +kernel
theorem d_S_isBankInWay_0 : decode c_S_isBankInWay 0 = .ok (.aload_n 0, 1) := by decide +kernel
theorem d_S_isBankInWay_1 : decode c_S_isBankInWay 1 = .ok (.iload_n 1, 1) := by decide +kernel
theorem d_S_isBankInWay_2 : decode c_S_isBankInWay 2 = .ok (.iload_n 2, 1) := by decide +kernel
theorem d_S_isBankInWay_3 : decode c_S_isBankInWay 3 = .ok (.iload_n 3, 1) := by decide +kernel
theorem d_S_isBankInWay_4 : decode c_S_isBankInWay 4 = .ok (.invokevirtual 153, 3) := by decide +kernel
theorem d_S_isBankInWay_7 : decode c_S_isBankInWay 7 = .ok (.lstore 4, 2) := by decide +kernel
theorem d_S_isBankInWay_9 : decode c_S_isBankInWay 9 = .ok (.lload 4, 2) := by decide +kernel
theorem d_S_isBankInWay_11 : decode c_S_isBankInWay 11 = .ok (.lconst 0, 1) := by decide +kernel
theorem d_S_isBankInWay_12 : decode c_S_isBankInWay 12 = .ok (.lcmp, 1) := by decide +kernel
theorem d_S_isBankInWay_13 : decode c_S_isBankInWay 13 = .ok (.ifCond .ne 5, 3) := by decide +kernel
theorem d_S_isBankInWay_16 : decode c_S_isBankInWay 16 = .ok (.iconst 0, 1) := by decide +kernel
theorem d_S_isBankInWay_17 : decode c_S_isBankInWay 17 = .ok (.ireturn, 1) := by decide +kernel
theorem d_S_isBankInWay_18 : decode c_S_isBankInWay 18 = .ok (.aload_n 0, 1) := by decide +kernel
theorem d_S_isBankInWay_19 : decode c_S_isBankInWay 19 = .ok (.getfield 25, 3) := by decide +kernel
theorem d_S_isBankInWay_22 : decode c_S_isBankInWay 22 = .ok (.iconst 2, 1) := by decide +kernel
theorem d_S_isBankInWay_23 : decode c_S_isBankInWay 23 = .ok (.iload_n 3, 1) := by decide +kernel
theorem d_S_isBankInWay_24 : decode c_S_isBankInWay 24 = .ok (.imul, 1) := by decide +kernel
theorem d_S_isBankInWay_25 : decode c_S_isBankInWay 25 = .ok (.lload 4, 2) := by decide +kernel
theorem d_S_isBankInWay_27 : decode c_S_isBankInWay 27 = .ok (.invokestatic 157, 3) := by decide +kernel
theorem d_S_isBankInWay_30 : decode c_S_isBankInWay 30 = .ok (.iadd, 1) := by decide +kernel
theorem d_S_isBankInWay_31 : decode c_S_isBankInWay 31 = .ok (.iaload, 1) := by decide +kernel
theorem d_S_isBankInWay_32 : decode c_S_isBankInWay 32 = .ok (.istore 6, 2) := by decide +kernel
theorem d_S_isBankInWay_34 : decode c_S_isBankInWay 34 = .ok (.iload 6, 2) := by decide +kernel
theorem d_S_isBankInWay_36 : decode c_S_isBankInWay 36 = .ok (.iconst (-1), 1) := by decide +kernel
theorem d_S_isBankInWay_37 : decode c_S_isBankInWay 37 = .ok (.if_icmp .eq 24, 3) := by decide +kernel
theorem d_S_isBankInWay_40 : decode c_S_isBankInWay 40 = .ok (.lload 4, 2) := by decide +kernel
theorem d_S_isBankInWay_42 : decode c_S_isBankInWay 42 = .ok (.aload_n 0, 1) := by decide +kernel
theorem d_S_isBankInWay_43 : decode c_S_isBankInWay 43 = .ok (.iload_n 1, 1) := by decide +kernel
theorem d_S_isBankInWay_44 : decode c_S_isBankInWay 44 = .ok (.iload_n 2, 1) := by decide +kernel
theorem d_S_isBankInWay_45 : decode c_S_isBankInWay 45 = .ok (.invokevirtual 132, 3) := by decide +kernel
theorem d_S_isBankInWay_48 : decode c_S_isBankInWay 48 = .ok (.iload 6, 2) := by decide +kernel
theorem d_S_isBankInWay_50 : decode c_S_isBankInWay 50 = .ok (.i2l, 1) := by decide +kernel
theorem d_S_isBankInWay_51 : decode c_S_isBankInWay 51 = .ok (.invokestatic 160, 3) := by decide +kernel
theorem d_S_isBankInWay_54 : decode c_S_isBankInWay 54 = .ok (.ifCond .eq 7, 3) := by decide +kernel
theorem d_S_isBankInWay_57 : decode c_S_isBankInWay 57 = .ok (.iconst 1, 1) := by decide +kernel
theorem d_S_isBankInWay_58 : decode c_S_isBankInWay 58 = .ok (.goto 4, 3) := by decide +kernel
theorem d_S_isBankInWay_61 : decode c_S_isBankInWay 61 = .ok (.iconst 0, 1) := by decide +kernel
theorem d_S_isBankInWay_62 : decode c_S_isBankInWay 62 = .ok (.ireturn, 1) := by decide +kernel
theorem d_S_crossAt_0 : decode c_S_crossAt 0 = .ok (.aload_n 0, 1) := by decide +kernel
theorem d_S_crossAt_1 : decode c_S_crossAt 1 = .ok (.getfield 9, 3) := by decide +kernel
theorem d_S_crossAt_4 : decode c_S_crossAt 4 = .ok (.iload_n 2, 1) := by decide +kernel
theorem d_S_crossAt_5 : decode c_S_crossAt 5 = .ok (.iaload, 1) := by decide +kernel
theorem d_S_crossAt_6 : decode c_S_crossAt 6 = .ok (.aload_n 0, 1) := by decide +kernel
theorem d_S_crossAt_7 : decode c_S_crossAt 7 = .ok (.getfield 9, 3) := by decide +kernel
theorem d_S_crossAt_10 : decode c_S_crossAt 10 = .ok (.iload_n 1, 1) := by decide +kernel
theorem d_S_crossAt_11 : decode c_S_crossAt 11 = .ok (.iaload, 1) := by decide +kernel
theorem d_S_crossAt_12 : decode c_S_crossAt 12 = .ok (.isub, 1) := by decide +kernel
theorem d_S_crossAt_13 : decode c_S_crossAt 13 = .ok (.i2l, 1) := by decide +kernel
theorem d_S_crossAt_14 : decode c_S_crossAt 14 = .ok (.lstore 4, 2) := by decide +kernel
theorem d_S_crossAt_16 : decode c_S_crossAt 16 = .ok (.aload_n 0, 1) := by decide +kernel
theorem d_S_crossAt_17 : decode c_S_crossAt 17 = .ok (.getfield 13, 3) := by decide +kernel
theorem d_S_crossAt_20 : decode c_S_crossAt 20 = .ok (.iload_n 2, 1) := by decide +kernel
theorem d_S_crossAt_21 : decode c_S_crossAt 21 = .ok (.iaload, 1) := by decide +kernel
theorem d_S_crossAt_22 : decode c_S_crossAt 22 = .ok (.aload_n 0, 1) := by decide +kernel
theorem d_S_crossAt_23 : decode c_S_crossAt 23 = .ok (.getfield 13, 3) := by decide +kernel
theorem d_S_crossAt_26 : decode c_S_crossAt 26 = .ok (.iload_n 1, 1) := by decide +kernel
theorem d_S_crossAt_27 : decode c_S_crossAt 27 = .ok (.iaload, 1) := by decide +kernel
theorem d_S_crossAt_28 : decode c_S_crossAt 28 = .ok (.isub, 1) := by decide +kernel
theorem d_S_crossAt_29 : decode c_S_crossAt 29 = .ok (.i2l, 1) := by decide +kernel
theorem d_S_crossAt_30 : decode c_S_crossAt 30 = .ok (.lstore 6, 2) := by decide +kernel
theorem d_S_crossAt_32 : decode c_S_crossAt 32 = .ok (.lload 4, 2) := by decide +kernel
theorem d_S_crossAt_34 : decode c_S_crossAt 34 = .ok (.aload_n 0, 1) := by decide +kernel
theorem d_S_crossAt_35 : decode c_S_crossAt 35 = .ok (.getfield 13, 3) := by decide +kernel
theorem d_S_crossAt_38 : decode c_S_crossAt 38 = .ok (.iload_n 3, 1) := by decide +kernel
theorem d_S_crossAt_39 : decode c_S_crossAt 39 = .ok (.iaload, 1) := by decide +kernel
theorem d_S_crossAt_40 : decode c_S_crossAt 40 = .ok (.aload_n 0, 1) := by decide +kernel
theorem d_S_crossAt_41 : decode c_S_crossAt 41 = .ok (.getfield 13, 3) := by decide +kernel
theorem d_S_crossAt_44 : decode c_S_crossAt 44 = .ok (.iload_n 1, 1) := by decide +kernel
theorem d_S_crossAt_45 : decode c_S_crossAt 45 = .ok (.iaload, 1) := by decide +kernel
theorem d_S_crossAt_46 : decode c_S_crossAt 46 = .ok (.isub, 1) := by decide +kernel
theorem d_S_crossAt_47 : decode c_S_crossAt 47 = .ok (.i2l, 1) := by decide +kernel
theorem d_S_crossAt_48 : decode c_S_crossAt 48 = .ok (.lmul, 1) := by decide +kernel
theorem d_S_crossAt_49 : decode c_S_crossAt 49 = .ok (.lload 6, 2) := by decide +kernel
theorem d_S_crossAt_51 : decode c_S_crossAt 51 = .ok (.aload_n 0, 1) := by decide +kernel
theorem d_S_crossAt_52 : decode c_S_crossAt 52 = .ok (.getfield 9, 3) := by decide +kernel
theorem d_S_crossAt_55 : decode c_S_crossAt 55 = .ok (.iload_n 3, 1) := by decide +kernel
theorem d_S_crossAt_56 : decode c_S_crossAt 56 = .ok (.iaload, 1) := by decide +kernel
theorem d_S_crossAt_57 : decode c_S_crossAt 57 = .ok (.aload_n 0, 1) := by decide +kernel
theorem d_S_crossAt_58 : decode c_S_crossAt 58 = .ok (.getfield 9, 3) := by decide +kernel
theorem d_S_crossAt_61 : decode c_S_crossAt 61 = .ok (.iload_n 1, 1) := by decide +kernel
theorem d_S_crossAt_62 : decode c_S_crossAt 62 = .ok (.iaload, 1) := by decide +kernel
theorem d_S_crossAt_63 : decode c_S_crossAt 63 = .ok (.isub, 1) := by decide +kernel
theorem d_S_crossAt_64 : decode c_S_crossAt 64 = .ok (.i2l, 1) := by decide +kernel
theorem d_S_crossAt_65 : decode c_S_crossAt 65 = .ok (.lmul, 1) := by decide +kernel
theorem d_S_crossAt_66 : decode c_S_crossAt 66 = .ok (.lsub, 1) := by decide +kernel
theorem d_S_crossAt_67 : decode c_S_crossAt 67 = .ok (.lreturn, 1) := by decide +kernel
theorem d_S_sideOf_0 : decode c_S_sideOf 0 = .ok (.lload_n 0, 1) := by decide +kernel
theorem d_S_sideOf_1 : decode c_S_sideOf 1 = .ok (.lconst 0, 1) := by decide +kernel
theorem d_S_sideOf_2 : decode c_S_sideOf 2 = .ok (.lcmp, 1) := by decide +kernel
theorem d_S_sideOf_3 : decode c_S_sideOf 3 = .ok (.ifCond .ge 7, 3) := by decide +kernel
theorem d_S_sideOf_6 : decode c_S_sideOf 6 = .ok (.iconst 0, 1) := by decide +kernel
theorem d_S_sideOf_7 : decode c_S_sideOf 7 = .ok (.goto 4, 3) := by decide +kernel
theorem d_S_sideOf_10 : decode c_S_sideOf 10 = .ok (.iconst 1, 1) := by decide +kernel
theorem d_S_sideOf_11 : decode c_S_sideOf 11 = .ok (.ireturn, 1) := by decide +kernel
theorem d_S_isFarther_0 : decode c_S_isFarther 0 = .ok (.lload_n 0, 1) := by decide +kernel
theorem d_S_isFarther_1 : decode c_S_isFarther 1 = .ok (.lload_n 0, 1) := by decide +kernel
theorem d_S_isFarther_2 : decode c_S_isFarther 2 = .ok (.lmul, 1) := by decide +kernel
theorem d_S_isFarther_3 : decode c_S_isFarther 3 = .ok (.lload 4, 2) := by decide +kernel
theorem d_S_isFarther_5 : decode c_S_isFarther 5 = .ok (.lload 4, 2) := by decide +kernel
theorem d_S_isFarther_7 : decode c_S_isFarther 7 = .ok (.lmul, 1) := by decide +kernel
theorem d_S_isFarther_8 : decode c_S_isFarther 8 = .ok (.lload_n 2, 1) := by decide +kernel
theorem d_S_isFarther_9 : decode c_S_isFarther 9 = .ok (.lmul, 1) := by decide +kernel
theorem d_S_isFarther_10 : decode c_S_isFarther 10 = .ok (.lcmp, 1) := by decide +kernel
theorem d_S_isFarther_11 : decode c_S_isFarther 11 = .ok (.ifCond .le 7, 3) := by decide +kernel
theorem d_S_isFarther_14 : decode c_S_isFarther 14 = .ok (.iconst 1, 1) := by decide +kernel
theorem d_S_isFarther_15 : decode c_S_isFarther 15 = .ok (.goto 4, 3) := by decide +kernel
theorem d_S_isFarther_18 : decode c_S_isFarther 18 = .ok (.iconst 0, 1) := by decide +kernel
theorem d_S_isFarther_19 : decode c_S_isFarther 19 = .ok (.ireturn, 1) := by decide +kernel
theorem d_S_widened_0 : decode c_S_widened 0 = .ok (.aload_n 0, 1) := by decide +kernel
theorem d_S_widened_1 : decode c_S_widened 1 = .ok (.iload_n 2, 1) := by decide +kernel
theorem d_S_widened_2 : decode c_S_widened 2 = .ok (.iload_n 3, 1) := by decide +kernel
theorem d_S_widened_3 : decode c_S_widened 3 = .ok (.iload 4, 2) := by decide +kernel
theorem d_S_widened_5 : decode c_S_widened 5 = .ok (.invokevirtual 153, 3) := by decide +kernel
theorem d_S_widened_8 : decode c_S_widened 8 = .ok (.lstore 6, 2) := by decide +kernel
theorem d_S_widened_10 : decode c_S_widened 10 = .ok (.lload 6, 2) := by decide +kernel
theorem d_S_widened_12 : decode c_S_widened 12 = .ok (.lconst 0, 1) := by decide +kernel
theorem d_S_widened_13 : decode c_S_widened 13 = .ok (.lcmp, 1) := by decide +kernel
theorem d_S_widened_14 : decode c_S_widened 14 = .ok (.ifCond .eq 13, 3) := by decide +kernel
theorem d_S_widened_17 : decode c_S_widened 17 = .ok (.lload 6, 2) := by decide +kernel
theorem d_S_widened_19 : decode c_S_widened 19 = .ok (.invokestatic 157, 3) := by decide +kernel
theorem d_S_widened_22 : decode c_S_widened 22 = .ok (.iload 5, 2) := by decide +kernel
theorem d_S_widened_24 : decode c_S_widened 24 = .ok (.if_icmp .eq 5, 3) := by decide +kernel
theorem d_S_widened_27 : decode c_S_widened 27 = .ok (.iload_n 1, 1) := by decide +kernel
theorem d_S_widened_28 : decode c_S_widened 28 = .ok (.ireturn, 1) := by decide +kernel
theorem d_S_widened_29 : decode c_S_widened 29 = .ok (.aload_n 0, 1) := by decide +kernel
theorem d_S_widened_30 : decode c_S_widened 30 = .ok (.iload_n 2, 1) := by decide +kernel
theorem d_S_widened_31 : decode c_S_widened 31 = .ok (.iload_n 3, 1) := by decide +kernel
theorem d_S_widened_32 : decode c_S_widened 32 = .ok (.invokevirtual 132, 3) := by decide +kernel
theorem d_S_widened_35 : decode c_S_widened 35 = .ok (.lstore 8, 2) := by decide +kernel
theorem d_S_widened_37 : decode c_S_widened 37 = .ok (.iload_n 1, 1) := by decide +kernel
theorem d_S_widened_38 : decode c_S_widened 38 = .ok (.istore 10, 2) := by decide +kernel
theorem d_S_widened_40 : decode c_S_widened 40 = .ok (.iload 10, 2) := by decide +kernel
theorem d_S_widened_42 : decode c_S_widened 42 = .ok (.sipush 1000, 3) := by decide +kernel
theorem d_S_widened_45 : decode c_S_widened 45 = .ok (.if_icmp .gt 22, 3) := by decide +kernel
theorem d_S_widened_48 : decode c_S_widened 48 = .ok (.lload 6, 2) := by decide +kernel
theorem d_S_widened_50 : decode c_S_widened 50 = .ok (.lload 8, 2) := by decide +kernel
theorem d_S_widened_52 : decode c_S_widened 52 = .ok (.iload 10, 2) := by decide +kernel
theorem d_S_widened_54 : decode c_S_widened 54 = .ok (.i2l, 1) := by decide +kernel
theorem d_S_widened_55 : decode c_S_widened 55 = .ok (.invokestatic 160, 3) := by decide +kernel
theorem d_S_widened_58 : decode c_S_widened 58 = .ok (.ifCond .eq 9, 3) := by decide +kernel
theorem d_S_widened_61 : decode c_S_widened 61 = .ok (.iinc 10 1, 3) := by decide +kernel
theorem d_S_widened_64 : decode c_S_widened 64 = .ok (.goto (-24), 3) := by decide +kernel
theorem d_S_widened_67 : decode c_S_widened 67 = .ok (.iload 10, 2) := by decide +kernel
theorem d_S_widened_69 : decode c_S_widened 69 = .ok (.ireturn, 1) := by decide +kernel
theorem d_S_sightFrom_0 : decode c_S_sightFrom 0 = .ok (.iload_n 2, 1) := by decide +kernel
theorem d_S_sightFrom_1 : decode c_S_sightFrom 1 = .ok (.ifCond .eq 7, 3) := by decide +kernel
theorem d_S_sightFrom_4 : decode c_S_sightFrom 4 = .ok (.iconst (-1), 1) := by decide +kernel
theorem d_S_sightFrom_5 : decode c_S_sightFrom 5 = .ok (.goto 4, 3) := by decide +kernel
theorem d_S_sightFrom_8 : decode c_S_sightFrom 8 = .ok (.iconst 1, 1) := by decide +kernel
theorem d_S_sightFrom_9 : decode c_S_sightFrom 9 = .ok (.istore_n 3, 1) := by decide +kernel
theorem d_S_sightFrom_10 : decode c_S_sightFrom 10 = .ok (.iload_n 1, 1) := by decide +kernel
theorem d_S_sightFrom_11 : decode c_S_sightFrom 11 = .ok (.istore 4, 2) := by decide +kernel
theorem d_S_sightFrom_13 : decode c_S_sightFrom 13 = .ok (.iload_n 1, 1) := by decide +kernel
theorem d_S_sightFrom_14 : decode c_S_sightFrom 14 = .ok (.iload_n 3, 1) := by decide +kernel
theorem d_S_sightFrom_15 : decode c_S_sightFrom 15 = .ok (.iadd, 1) := by decide +kernel
theorem d_S_sightFrom_16 : decode c_S_sightFrom 16 = .ok (.istore 5, 2) := by decide +kernel
theorem d_S_sightFrom_18 : decode c_S_sightFrom 18 = .ok (.iload 5, 2) := by decide +kernel
theorem d_S_sightFrom_20 : decode c_S_sightFrom 20 = .ok (.ifCond .lt 38, 3) := by decide +kernel
theorem d_S_sightFrom_23 : decode c_S_sightFrom 23 = .ok (.iload 5, 2) := by decide +kernel
theorem d_S_sightFrom_25 : decode c_S_sightFrom 25 = .ok (.aload_n 0, 1) := by decide +kernel
theorem d_S_sightFrom_26 : decode c_S_sightFrom 26 = .ok (.getfield 56, 3) := by decide +kernel
theorem d_S_sightFrom_29 : decode c_S_sightFrom 29 = .ok (.if_icmp .ge 29, 3) := by decide +kernel
theorem d_S_sightFrom_32 : decode c_S_sightFrom 32 = .ok (.aload_n 0, 1) := by decide +kernel
theorem d_S_sightFrom_33 : decode c_S_sightFrom 33 = .ok (.iload_n 1, 1) := by decide +kernel
theorem d_S_sightFrom_34 : decode c_S_sightFrom 34 = .ok (.iload 5, 2) := by decide +kernel
theorem d_S_sightFrom_36 : decode c_S_sightFrom 36 = .ok (.invokevirtual 80, 3) := by decide +kernel
theorem d_S_sightFrom_39 : decode c_S_sightFrom 39 = .ok (.ifCond .eq 6, 3) := by decide +kernel
theorem d_S_sightFrom_42 : decode c_S_sightFrom 42 = .ok (.goto 16, 3) := by decide +kernel
theorem d_S_sightFrom_45 : decode c_S_sightFrom 45 = .ok (.iload 5, 2) := by decide +kernel
theorem d_S_sightFrom_47 : decode c_S_sightFrom 47 = .ok (.istore 4, 2) := by decide +kernel
theorem d_S_sightFrom_49 : decode c_S_sightFrom 49 = .ok (.iload 5, 2) := by decide +kernel
theorem d_S_sightFrom_51 : decode c_S_sightFrom 51 = .ok (.iload_n 3, 1) := by decide +kernel
theorem d_S_sightFrom_52 : decode c_S_sightFrom 52 = .ok (.iadd, 1) := by decide +kernel
theorem d_S_sightFrom_53 : decode c_S_sightFrom 53 = .ok (.istore 5, 2) := by decide +kernel
theorem d_S_sightFrom_55 : decode c_S_sightFrom 55 = .ok (.goto (-37), 3) := by decide +kernel
theorem d_S_sightFrom_58 : decode c_S_sightFrom 58 = .ok (.aload_n 0, 1) := by decide +kernel
theorem d_S_sightFrom_59 : decode c_S_sightFrom 59 = .ok (.getfield 19, 3) := by decide +kernel
theorem d_S_sightFrom_62 : decode c_S_sightFrom 62 = .ok (.iload 4, 2) := by decide +kernel
theorem d_S_sightFrom_64 : decode c_S_sightFrom 64 = .ok (.iaload, 1) := by decide +kernel
theorem d_S_sightFrom_65 : decode c_S_sightFrom 65 = .ok (.aload_n 0, 1) := by decide +kernel
theorem d_S_sightFrom_66 : decode c_S_sightFrom 66 = .ok (.getfield 19, 3) := by decide +kernel
theorem d_S_sightFrom_69 : decode c_S_sightFrom 69 = .ok (.iload_n 1, 1) := by decide +kernel
theorem d_S_sightFrom_70 : decode c_S_sightFrom 70 = .ok (.iaload, 1) := by decide +kernel
theorem d_S_sightFrom_71 : decode c_S_sightFrom 71 = .ok (.isub, 1) := by decide +kernel
theorem d_S_sightFrom_72 : decode c_S_sightFrom 72 = .ok (.invokestatic 149, 3) := by decide +kernel
theorem d_S_sightFrom_75 : decode c_S_sightFrom 75 = .ok (.ireturn, 1) := by decide +kernel
theorem d_S_needWith_0 : decode c_S_needWith 0 = .ok (.iload_n 3, 1) := by decide +kernel
theorem d_S_needWith_1 : decode c_S_needWith 1 = .ok (.i2l, 1) := by decide +kernel
theorem d_S_needWith_2 : decode c_S_needWith 2 = .ok (.aload_n 0, 1) := by decide +kernel
theorem d_S_needWith_3 : decode c_S_needWith 3 = .ok (.getfield 42, 3) := by decide +kernel
theorem d_S_needWith_6 : decode c_S_needWith 6 = .ok (.i2l, 1) := by decide +kernel
theorem d_S_needWith_7 : decode c_S_needWith 7 = .ok (.lmul, 1) := by decide +kernel
theorem d_S_needWith_8 : decode c_S_needWith 8 = .ok (.ldc2_w 164, 3) := by decide +kernel
theorem d_S_needWith_11 : decode c_S_needWith 11 = .ok (.lmul, 1) := by decide +kernel
theorem d_S_needWith_12 : decode c_S_needWith 12 = .ok (.ldc2_w 166, 3) := by decide +kernel
theorem d_S_needWith_15 : decode c_S_needWith 15 = .ok (.ldiv, 1) := by decide +kernel
theorem d_S_needWith_16 : decode c_S_needWith 16 = .ok (.lstore 4, 2) := by decide +kernel
theorem d_S_needWith_18 : decode c_S_needWith 18 = .ok (.ldc2_w 168, 3) := by decide +kernel
theorem d_S_needWith_21 : decode c_S_needWith 21 = .ok (.aload_n 0, 1) := by decide +kernel
theorem d_S_needWith_22 : decode c_S_needWith 22 = .ok (.getfield 45, 3) := by decide +kernel
theorem d_S_needWith_25 : decode c_S_needWith 25 = .ok (.i2l, 1) := by decide +kernel
theorem d_S_needWith_26 : decode c_S_needWith 26 = .ok (.aload_n 0, 1) := by decide +kernel
theorem d_S_needWith_27 : decode c_S_needWith 27 = .ok (.iload_n 1, 1) := by decide +kernel
theorem d_S_needWith_28 : decode c_S_needWith 28 = .ok (.iload_n 2, 1) := by decide +kernel
theorem d_S_needWith_29 : decode c_S_needWith 29 = .ok (.invokevirtual 170, 3) := by decide +kernel
theorem d_S_needWith_32 : decode c_S_needWith 32 = .ok (.ladd, 1) := by decide +kernel
theorem d_S_needWith_33 : decode c_S_needWith 33 = .ok (.invokestatic 174, 3) := by decide +kernel
theorem d_S_needWith_36 : decode c_S_needWith 36 = .ok (.lstore 6, 2) := by decide +kernel
theorem d_S_needWith_38 : decode c_S_needWith 38 = .ok (.lload 4, 2) := by decide +kernel
theorem d_S_needWith_40 : decode c_S_needWith 40 = .ok (.iload_n 3, 1) := by decide +kernel
theorem d_S_needWith_41 : decode c_S_needWith 41 = .ok (.i2l, 1) := by decide +kernel
theorem d_S_needWith_42 : decode c_S_needWith 42 = .ok (.iload_n 3, 1) := by decide +kernel
theorem d_S_needWith_43 : decode c_S_needWith 43 = .ok (.i2l, 1) := by decide +kernel
theorem d_S_needWith_44 : decode c_S_needWith 44 = .ok (.lmul, 1) := by decide +kernel
theorem d_S_needWith_45 : decode c_S_needWith 45 = .ok (.ldc2_w 176, 3) := by decide +kernel
theorem d_S_needWith_48 : decode c_S_needWith 48 = .ok (.lmul, 1) := by decide +kernel
theorem d_S_needWith_49 : decode c_S_needWith 49 = .ok (.ldc2_w 178, 3) := by decide +kernel
theorem d_S_needWith_52 : decode c_S_needWith 52 = .ok (.lload 6, 2) := by decide +kernel
theorem d_S_needWith_54 : decode c_S_needWith 54 = .ok (.lmul, 1) := by decide +kernel
theorem d_S_needWith_55 : decode c_S_needWith 55 = .ok (.ldiv, 1) := by decide +kernel
theorem d_S_needWith_56 : decode c_S_needWith 56 = .ok (.ladd, 1) := by decide +kernel
theorem d_S_needWith_57 : decode c_S_needWith 57 = .ok (.l2i, 1) := by decide +kernel
theorem d_S_needWith_58 : decode c_S_needWith 58 = .ok (.ireturn, 1) := by decide +kernel
theorem d_S_slopeBeyond_0 : decode c_S_slopeBeyond 0 = .ok (.iload_n 2, 1) := by decide +kernel
theorem d_S_slopeBeyond_1 : decode c_S_slopeBeyond 1 = .ok (.ifCond .eq 9, 3) := by decide +kernel
theorem d_S_slopeBeyond_4 : decode c_S_slopeBeyond 4 = .ok (.iload_n 1, 1) := by decide +kernel
theorem d_S_slopeBeyond_5 : decode c_S_slopeBeyond 5 = .ok (.iconst 1, 1) := by decide +kernel
theorem d_S_slopeBeyond_6 : decode c_S_slopeBeyond 6 = .ok (.isub, 1) := by decide +kernel
theorem d_S_slopeBeyond_7 : decode c_S_slopeBeyond 7 = .ok (.goto 6, 3) := by decide +kernel
theorem d_S_slopeBeyond_10 : decode c_S_slopeBeyond 10 = .ok (.iload_n 1, 1) := by decide +kernel
theorem d_S_slopeBeyond_11 : decode c_S_slopeBeyond 11 = .ok (.iconst 1, 1) := by decide +kernel
theorem d_S_slopeBeyond_12 : decode c_S_slopeBeyond 12 = .ok (.iadd, 1) := by decide +kernel
theorem d_S_slopeBeyond_13 : decode c_S_slopeBeyond 13 = .ok (.istore_n 3, 1) := by decide +kernel
theorem d_S_slopeBeyond_14 : decode c_S_slopeBeyond 14 = .ok (.aload_n 0, 1) := by decide +kernel
theorem d_S_slopeBeyond_15 : decode c_S_slopeBeyond 15 = .ok (.iload_n 3, 1) := by decide +kernel
theorem d_S_slopeBeyond_16 : decode c_S_slopeBeyond 16 = .ok (.invokevirtual 67, 3) := by decide +kernel
theorem d_S_slopeBeyond_19 : decode c_S_slopeBeyond 19 = .ok (.ifCond .ne 5, 3) := by decide +kernel
theorem d_S_slopeBeyond_22 : decode c_S_slopeBeyond 22 = .ok (.lconst 0, 1) := by decide +kernel
theorem d_S_slopeBeyond_23 : decode c_S_slopeBeyond 23 = .ok (.lreturn, 1) := by decide +kernel
theorem d_S_slopeBeyond_24 : decode c_S_slopeBeyond 24 = .ok (.aload_n 0, 1) := by decide +kernel
theorem d_S_slopeBeyond_25 : decode c_S_slopeBeyond 25 = .ok (.getfield 19, 3) := by decide +kernel
theorem d_S_slopeBeyond_28 : decode c_S_slopeBeyond 28 = .ok (.iload_n 3, 1) := by decide +kernel
theorem d_S_slopeBeyond_29 : decode c_S_slopeBeyond 29 = .ok (.iaload, 1) := by decide +kernel
theorem d_S_slopeBeyond_30 : decode c_S_slopeBeyond 30 = .ok (.aload_n 0, 1) := by decide +kernel
theorem d_S_slopeBeyond_31 : decode c_S_slopeBeyond 31 = .ok (.getfield 19, 3) := by decide +kernel
theorem d_S_slopeBeyond_34 : decode c_S_slopeBeyond 34 = .ok (.iload_n 1, 1) := by decide +kernel
theorem d_S_slopeBeyond_35 : decode c_S_slopeBeyond 35 = .ok (.iaload, 1) := by decide +kernel
theorem d_S_slopeBeyond_36 : decode c_S_slopeBeyond 36 = .ok (.isub, 1) := by decide +kernel
theorem d_S_slopeBeyond_37 : decode c_S_slopeBeyond 37 = .ok (.invokestatic 149, 3) := by decide +kernel
theorem d_S_slopeBeyond_40 : decode c_S_slopeBeyond 40 = .ok (.i2l, 1) := by decide +kernel
theorem d_S_slopeBeyond_41 : decode c_S_slopeBeyond 41 = .ok (.lstore 4, 2) := by decide +kernel
theorem d_S_slopeBeyond_43 : decode c_S_slopeBeyond 43 = .ok (.lload 4, 2) := by decide +kernel
theorem d_S_slopeBeyond_45 : decode c_S_slopeBeyond 45 = .ok (.lconst 0, 1) := by decide +kernel
theorem d_S_slopeBeyond_46 : decode c_S_slopeBeyond 46 = .ok (.lcmp, 1) := by decide +kernel
theorem d_S_slopeBeyond_47 : decode c_S_slopeBeyond 47 = .ok (.ifCond .ne 7, 3) := by decide +kernel
theorem d_S_slopeBeyond_50 : decode c_S_slopeBeyond 50 = .ok (.lconst 0, 1) := by decide +kernel
theorem d_S_slopeBeyond_51 : decode c_S_slopeBeyond 51 = .ok (.goto 28, 3) := by decide +kernel
theorem d_S_slopeBeyond_54 : decode c_S_slopeBeyond 54 = .ok (.ldc2_w 180, 3) := by decide +kernel
theorem d_S_slopeBeyond_57 : decode c_S_slopeBeyond 57 = .ok (.aload_n 0, 1) := by decide +kernel
theorem d_S_slopeBeyond_58 : decode c_S_slopeBeyond 58 = .ok (.getfield 16, 3) := by decide +kernel
theorem d_S_slopeBeyond_61 : decode c_S_slopeBeyond 61 = .ok (.iload_n 3, 1) := by decide +kernel
theorem d_S_slopeBeyond_62 : decode c_S_slopeBeyond 62 = .ok (.iaload, 1) := by decide +kernel
theorem d_S_slopeBeyond_63 : decode c_S_slopeBeyond 63 = .ok (.aload_n 0, 1) := by decide +kernel
theorem d_S_slopeBeyond_64 : decode c_S_slopeBeyond 64 = .ok (.getfield 16, 3) := by decide +kernel
theorem d_S_slopeBeyond_67 : decode c_S_slopeBeyond 67 = .ok (.iload_n 1, 1) := by decide +kernel
theorem d_S_slopeBeyond_68 : decode c_S_slopeBeyond 68 = .ok (.iaload, 1) := by decide +kernel
theorem d_S_slopeBeyond_69 : decode c_S_slopeBeyond 69 = .ok (.isub, 1) := by decide +kernel
theorem d_S_slopeBeyond_70 : decode c_S_slopeBeyond 70 = .ok (.i2l, 1) := by decide +kernel
theorem d_S_slopeBeyond_71 : decode c_S_slopeBeyond 71 = .ok (.lmul, 1) := by decide +kernel
theorem d_S_slopeBeyond_72 : decode c_S_slopeBeyond 72 = .ok (.ldc2_w 164, 3) := by decide +kernel
theorem d_S_slopeBeyond_75 : decode c_S_slopeBeyond 75 = .ok (.lload 4, 2) := by decide +kernel
theorem d_S_slopeBeyond_77 : decode c_S_slopeBeyond 77 = .ok (.lmul, 1) := by decide +kernel
theorem d_S_slopeBeyond_78 : decode c_S_slopeBeyond 78 = .ok (.ldiv, 1) := by decide +kernel
theorem d_S_slopeBeyond_79 : decode c_S_slopeBeyond 79 = .ok (.lreturn, 1) := by decide +kernel
theorem d_S_roadBeyond_0 : decode c_S_roadBeyond 0 = .ok (.iload_n 2, 1) := by decide +kernel
theorem d_S_roadBeyond_1 : decode c_S_roadBeyond 1 = .ok (.ifCond .eq 12, 3) := by decide +kernel
theorem d_S_roadBeyond_4 : decode c_S_roadBeyond 4 = .ok (.aload_n 0, 1) := by decide +kernel
theorem d_S_roadBeyond_5 : decode c_S_roadBeyond 5 = .ok (.getfield 19, 3) := by decide +kernel
theorem d_S_roadBeyond_8 : decode c_S_roadBeyond 8 = .ok (.iload_n 1, 1) := by decide +kernel
theorem d_S_roadBeyond_9 : decode c_S_roadBeyond 9 = .ok (.iaload, 1) := by decide +kernel
theorem d_S_roadBeyond_10 : decode c_S_roadBeyond 10 = .ok (.goto 21, 3) := by decide +kernel
theorem d_S_roadBeyond_13 : decode c_S_roadBeyond 13 = .ok (.aload_n 0, 1) := by decide +kernel
theorem d_S_roadBeyond_14 : decode c_S_roadBeyond 14 = .ok (.getfield 19, 3) := by decide +kernel
theorem d_S_roadBeyond_17 : decode c_S_roadBeyond 17 = .ok (.aload_n 0, 1) := by decide +kernel
theorem d_S_roadBeyond_18 : decode c_S_roadBeyond 18 = .ok (.getfield 56, 3) := by decide +kernel
theorem d_S_roadBeyond_21 : decode c_S_roadBeyond 21 = .ok (.iconst 1, 1) := by decide +kernel
theorem d_S_roadBeyond_22 : decode c_S_roadBeyond 22 = .ok (.isub, 1) := by decide +kernel
theorem d_S_roadBeyond_23 : decode c_S_roadBeyond 23 = .ok (.iaload, 1) := by decide +kernel
theorem d_S_roadBeyond_24 : decode c_S_roadBeyond 24 = .ok (.aload_n 0, 1) := by decide +kernel
theorem d_S_roadBeyond_25 : decode c_S_roadBeyond 25 = .ok (.getfield 19, 3) := by decide +kernel
theorem d_S_roadBeyond_28 : decode c_S_roadBeyond 28 = .ok (.iload_n 1, 1) := by decide +kernel
theorem d_S_roadBeyond_29 : decode c_S_roadBeyond 29 = .ok (.iaload, 1) := by decide +kernel
theorem d_S_roadBeyond_30 : decode c_S_roadBeyond 30 = .ok (.isub, 1) := by decide +kernel
theorem d_S_roadBeyond_31 : decode c_S_roadBeyond 31 = .ok (.ireturn, 1) := by decide +kernel
theorem d_S_isBlind_0 : decode c_S_isBlind 0 = .ok (.aload_n 0, 1) := by decide +kernel
theorem d_S_isBlind_1 : decode c_S_isBlind 1 = .ok (.iload_n 1, 1) := by decide +kernel
theorem d_S_isBlind_2 : decode c_S_isBlind 2 = .ok (.iload_n 2, 1) := by decide +kernel
theorem d_S_isBlind_3 : decode c_S_isBlind 3 = .ok (.aload_n 0, 1) := by decide +kernel
theorem d_S_isBlind_4 : decode c_S_isBlind 4 = .ok (.getfield 22, 3) := by decide +kernel
theorem d_S_isBlind_7 : decode c_S_isBlind 7 = .ok (.iload_n 1, 1) := by decide +kernel
theorem d_S_isBlind_8 : decode c_S_isBlind 8 = .ok (.iaload, 1) := by decide +kernel
theorem d_S_isBlind_9 : decode c_S_isBlind 9 = .ok (.invokevirtual 87, 3) := by decide +kernel
theorem d_S_isBlind_12 : decode c_S_isBlind 12 = .ok (.istore_n 3, 1) := by decide +kernel
theorem d_S_isBlind_13 : decode c_S_isBlind 13 = .ok (.aload_n 0, 1) := by decide +kernel
theorem d_S_isBlind_14 : decode c_S_isBlind 14 = .ok (.iload_n 1, 1) := by decide +kernel
theorem d_S_isBlind_15 : decode c_S_isBlind 15 = .ok (.iload_n 2, 1) := by decide +kernel
theorem d_S_isBlind_16 : decode c_S_isBlind 16 = .ok (.invokevirtual 98, 3) := by decide +kernel
theorem d_S_isBlind_19 : decode c_S_isBlind 19 = .ok (.iload_n 3, 1) := by decide +kernel
theorem d_S_isBlind_20 : decode c_S_isBlind 20 = .ok (.if_icmp .lt 17, 3) := by decide +kernel
theorem d_S_isBlind_23 : decode c_S_isBlind 23 = .ok (.aload_n 0, 1) := by decide +kernel
theorem d_S_isBlind_24 : decode c_S_isBlind 24 = .ok (.iload_n 1, 1) := by decide +kernel
theorem d_S_isBlind_25 : decode c_S_isBlind 25 = .ok (.iload_n 2, 1) := by decide +kernel
theorem d_S_isBlind_26 : decode c_S_isBlind 26 = .ok (.invokevirtual 83, 3) := by decide +kernel
theorem d_S_isBlind_29 : decode c_S_isBlind 29 = .ok (.iload_n 3, 1) := by decide +kernel
theorem d_S_isBlind_30 : decode c_S_isBlind 30 = .ok (.if_icmp .ge 7, 3) := by decide +kernel
theorem d_S_isBlind_33 : decode c_S_isBlind 33 = .ok (.iconst 1, 1) := by decide +kernel
theorem d_S_isBlind_34 : decode c_S_isBlind 34 = .ok (.goto 4, 3) := by decide +kernel
theorem d_S_isBlind_37 : decode c_S_isBlind 37 = .ok (.iconst 0, 1) := by decide +kernel
theorem d_S_isBlind_38 : decode c_S_isBlind 38 = .ok (.ireturn, 1) := by decide +kernel
theorem d_S_blindStations_0 : decode c_S_blindStations 0 = .ok (.iconst 0, 1) := by decide +kernel
theorem d_S_blindStations_1 : decode c_S_blindStations 1 = .ok (.istore_n 2, 1) := by decide +kernel
theorem d_S_blindStations_2 : decode c_S_blindStations 2 = .ok (.iconst 0, 1) := by decide +kernel
theorem d_S_blindStations_3 : decode c_S_blindStations 3 = .ok (.istore_n 3, 1) := by decide +kernel
theorem d_S_blindStations_4 : decode c_S_blindStations 4 = .ok (.iload_n 3, 1) := by decide +kernel
theorem d_S_blindStations_5 : decode c_S_blindStations 5 = .ok (.aload_n 0, 1) := by decide +kernel
theorem d_S_blindStations_6 : decode c_S_blindStations 6 = .ok (.getfield 56, 3) := by decide +kernel
theorem d_S_blindStations_9 : decode c_S_blindStations 9 = .ok (.if_icmp .ge 21, 3) := by decide +kernel
theorem d_S_blindStations_12 : decode c_S_blindStations 12 = .ok (.aload_n 0, 1) := by decide +kernel
theorem d_S_blindStations_13 : decode c_S_blindStations 13 = .ok (.iload_n 3, 1) := by decide +kernel
theorem d_S_blindStations_14 : decode c_S_blindStations 14 = .ok (.iload_n 1, 1) := by decide +kernel
theorem d_S_blindStations_15 : decode c_S_blindStations 15 = .ok (.invokevirtual 91, 3) := by decide +kernel
theorem d_S_blindStations_18 : decode c_S_blindStations 18 = .ok (.ifCond .eq 6, 3) := by decide +kernel
theorem d_S_blindStations_21 : decode c_S_blindStations 21 = .ok (.iinc 2 1, 3) := by decide +kernel
theorem d_S_blindStations_24 : decode c_S_blindStations 24 = .ok (.iinc 3 1, 3) := by decide +kernel
theorem d_S_blindStations_27 : decode c_S_blindStations 27 = .ok (.goto (-23), 3) := by decide +kernel
theorem d_S_blindStations_30 : decode c_S_blindStations 30 = .ok (.iload_n 2, 1) := by decide +kernel
theorem d_S_blindStations_31 : decode c_S_blindStations 31 = .ok (.ireturn, 1) := by decide +kernel
theorem d_S_freeViews_0 : decode c_S_freeViews 0 = .ok (.iconst 0, 1) := by decide +kernel
theorem d_S_freeViews_1 : decode c_S_freeViews 1 = .ok (.istore_n 1, 1) := by decide +kernel
theorem d_S_freeViews_2 : decode c_S_freeViews 2 = .ok (.iconst 0, 1) := by decide +kernel
theorem d_S_freeViews_3 : decode c_S_freeViews 3 = .ok (.istore_n 2, 1) := by decide +kernel
theorem d_S_freeViews_4 : decode c_S_freeViews 4 = .ok (.iload_n 2, 1) := by decide +kernel
theorem d_S_freeViews_5 : decode c_S_freeViews 5 = .ok (.aload_n 0, 1) := by decide +kernel
theorem d_S_freeViews_6 : decode c_S_freeViews 6 = .ok (.getfield 56, 3) := by decide +kernel
theorem d_S_freeViews_9 : decode c_S_freeViews 9 = .ok (.if_icmp .ge 39, 3) := by decide +kernel
theorem d_S_freeViews_12 : decode c_S_freeViews 12 = .ok (.iload_n 2, 1) := by decide +kernel
theorem d_S_freeViews_13 : decode c_S_freeViews 13 = .ok (.iconst 1, 1) := by decide +kernel
theorem d_S_freeViews_14 : decode c_S_freeViews 14 = .ok (.iadd, 1) := by decide +kernel
theorem d_S_freeViews_15 : decode c_S_freeViews 15 = .ok (.istore_n 3, 1) := by decide +kernel
theorem d_S_freeViews_16 : decode c_S_freeViews 16 = .ok (.iload_n 3, 1) := by decide +kernel
theorem d_S_freeViews_17 : decode c_S_freeViews 17 = .ok (.aload_n 0, 1) := by decide +kernel
theorem d_S_freeViews_18 : decode c_S_freeViews 18 = .ok (.getfield 56, 3) := by decide +kernel
theorem d_S_freeViews_21 : decode c_S_freeViews 21 = .ok (.if_icmp .ge 21, 3) := by decide +kernel
theorem d_S_freeViews_24 : decode c_S_freeViews 24 = .ok (.aload_n 0, 1) := by decide +kernel
theorem d_S_freeViews_25 : decode c_S_freeViews 25 = .ok (.iload_n 2, 1) := by decide +kernel
theorem d_S_freeViews_26 : decode c_S_freeViews 26 = .ok (.iload_n 3, 1) := by decide +kernel
theorem d_S_freeViews_27 : decode c_S_freeViews 27 = .ok (.invokevirtual 80, 3) := by decide +kernel
theorem d_S_freeViews_30 : decode c_S_freeViews 30 = .ok (.ifCond .ne 6, 3) := by decide +kernel
theorem d_S_freeViews_33 : decode c_S_freeViews 33 = .ok (.iinc 1 1, 3) := by decide +kernel
theorem d_S_freeViews_36 : decode c_S_freeViews 36 = .ok (.iinc 3 1, 3) := by decide +kernel
theorem d_S_freeViews_39 : decode c_S_freeViews 39 = .ok (.goto (-23), 3) := by decide +kernel
theorem d_S_freeViews_42 : decode c_S_freeViews 42 = .ok (.iinc 2 1, 3) := by decide +kernel
theorem d_S_freeViews_45 : decode c_S_freeViews 45 = .ok (.goto (-41), 3) := by decide +kernel
theorem d_S_freeViews_48 : decode c_S_freeViews 48 = .ok (.iload_n 1, 1) := by decide +kernel
theorem d_S_freeViews_49 : decode c_S_freeViews 49 = .ok (.ireturn, 1) := by decide +kernel
