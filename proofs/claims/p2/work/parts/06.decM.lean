theorem d_M_absence_0 : decode b_M_absence 0 = .ok (.iconst 0, 1) := by decide +kernel
theorem d_M_absence_1 : decode b_M_absence 1 = .ok (.istore_n 1, 1) := by decide +kernel
theorem d_M_absence_2 : decode b_M_absence 2 = .ok (.aload_n 0, 1) := by decide +kernel
theorem d_M_absence_3 : decode b_M_absence 3 = .ok (.iconst 2, 1) := by decide +kernel
theorem d_M_absence_4 : decode b_M_absence 4 = .ok (.invokevirtual 246, 3) := by decide +kernel
theorem d_M_absence_7 : decode b_M_absence 7 = .ok (.ifCond .eq 82, 3) := by decide +kernel
theorem d_M_absence_10 : decode b_M_absence 10 = .ok (.aload_n 0, 1) := by decide +kernel
theorem d_M_absence_11 : decode b_M_absence 11 = .ok (.bipush 27, 2) := by decide +kernel
theorem d_M_absence_13 : decode b_M_absence 13 = .ok (.iconst 4, 1) := by decide +kernel
theorem d_M_absence_14 : decode b_M_absence 14 = .ok (.invokevirtual 181, 3) := by decide +kernel
theorem d_M_absence_17 : decode b_M_absence 17 = .ok (.istore_n 2, 1) := by decide +kernel
theorem d_M_absence_18 : decode b_M_absence 18 = .ok (.iload_n 2, 1) := by decide +kernel
theorem d_M_absence_19 : decode b_M_absence 19 = .ok (.ifCond .ge 7, 3) := by decide +kernel
theorem d_M_absence_22 : decode b_M_absence 22 = .ok (.iconst 0, 1) := by decide +kernel
theorem d_M_absence_23 : decode b_M_absence 23 = .ok (.goto 9, 3) := by decide +kernel
theorem d_M_absence_26 : decode b_M_absence 26 = .ok (.iconst 1, 1) := by decide +kernel
theorem d_M_absence_27 : decode b_M_absence 27 = .ok (.iload_n 2, 1) := by decide +kernel
theorem d_M_absence_28 : decode b_M_absence 28 = .ok (.bipush 27, 2) := by decide +kernel
theorem d_M_absence_30 : decode b_M_absence 30 = .ok (.isub, 1) := by decide +kernel
theorem d_M_absence_31 : decode b_M_absence 31 = .ok (.ishl, 1) := by decide +kernel
theorem d_M_absence_32 : decode b_M_absence 32 = .ok (.istore_n 3, 1) := by decide +kernel
theorem d_M_absence_33 : decode b_M_absence 33 = .ok (.iload_n 2, 1) := by decide +kernel
theorem d_M_absence_34 : decode b_M_absence 34 = .ok (.ifCond .lt 9, 3) := by decide +kernel
theorem d_M_absence_37 : decode b_M_absence 37 = .ok (.iload_n 1, 1) := by decide +kernel
theorem d_M_absence_38 : decode b_M_absence 38 = .ok (.iload_n 3, 1) := by decide +kernel
theorem d_M_absence_39 : decode b_M_absence 39 = .ok (.iand, 1) := by decide +kernel
theorem d_M_absence_40 : decode b_M_absence 40 = .ok (.ifCond .eq 7, 3) := by decide +kernel
theorem d_M_absence_43 : decode b_M_absence 43 = .ok (.aload_n 0, 1) := by decide +kernel
theorem d_M_absence_44 : decode b_M_absence 44 = .ok (.invokevirtual 202, 3) := by decide +kernel
theorem d_M_absence_47 : decode b_M_absence 47 = .ok (.iload_n 1, 1) := by decide +kernel
theorem d_M_absence_48 : decode b_M_absence 48 = .ok (.iload_n 3, 1) := by decide +kernel
theorem d_M_absence_49 : decode b_M_absence 49 = .ok (.ior, 1) := by decide +kernel
theorem d_M_absence_50 : decode b_M_absence 50 = .ok (.istore_n 1, 1) := by decide +kernel
theorem d_M_absence_51 : decode b_M_absence 51 = .ok (.aload_n 0, 1) := by decide +kernel
theorem d_M_absence_52 : decode b_M_absence 52 = .ok (.invokevirtual 252, 3) := by decide +kernel
theorem d_M_absence_55 : decode b_M_absence 55 = .ok (.iload_n 2, 1) := by decide +kernel
theorem d_M_absence_56 : decode b_M_absence 56 = .ok (.bipush 27, 2) := by decide +kernel
theorem d_M_absence_58 : decode b_M_absence 58 = .ok (.if_icmp .ne 10, 3) := by decide +kernel
theorem d_M_absence_61 : decode b_M_absence 61 = .ok (.aload_n 0, 1) := by decide +kernel
theorem d_M_absence_62 : decode b_M_absence 62 = .ok (.invokevirtual 308, 3) := by decide +kernel
theorem d_M_absence_65 : decode b_M_absence 65 = .ok (.goto 21, 3) := by decide +kernel
theorem d_M_absence_68 : decode b_M_absence 68 = .ok (.iload_n 2, 1) := by decide +kernel
theorem d_M_absence_69 : decode b_M_absence 69 = .ok (.bipush 29, 2) := by decide +kernel
theorem d_M_absence_71 : decode b_M_absence 71 = .ok (.if_icmp .ne 11, 3) := by decide +kernel
theorem d_M_absence_74 : decode b_M_absence 74 = .ok (.aload_n 0, 1) := by decide +kernel
theorem d_M_absence_75 : decode b_M_absence 75 = .ok (.iconst 0, 1) := by decide +kernel
theorem d_M_absence_76 : decode b_M_absence 76 = .ok (.invokevirtual 294, 3) := by decide +kernel
theorem d_M_absence_79 : decode b_M_absence 79 = .ok (.goto 7, 3) := by decide +kernel
theorem d_M_absence_82 : decode b_M_absence 82 = .ok (.aload_n 0, 1) := by decide +kernel
theorem d_M_absence_83 : decode b_M_absence 83 = .ok (.invokevirtual 291, 3) := by decide +kernel
theorem d_M_absence_86 : decode b_M_absence 86 = .ok (.goto (-84), 3) := by decide +kernel
theorem d_M_absence_89 : decode b_M_absence 89 = .ok (.aload_n 0, 1) := by decide +kernel
theorem d_M_absence_90 : decode b_M_absence 90 = .ok (.invokevirtual 291, 3) := by decide +kernel
theorem d_M_absence_93 : decode b_M_absence 93 = .ok (.return_, 1) := by decide +kernel
theorem d_M_add_0 : decode b_M_add 0 = .ok (.aload_n 0, 1) := by decide +kernel
theorem d_M_add_1 : decode b_M_add 1 = .ok (.getfield 174, 3) := by decide +kernel
theorem d_M_add_4 : decode b_M_add 4 = .ok (.bipush 32, 2) := by decide +kernel
theorem d_M_add_6 : decode b_M_add 6 = .ok (.if_icmp .ge 47, 3) := by decide +kernel
theorem d_M_add_9 : decode b_M_add 9 = .ok (.aload_n 0, 1) := by decide +kernel
theorem d_M_add_10 : decode b_M_add 10 = .ok (.getfield 148, 3) := by decide +kernel
theorem d_M_add_13 : decode b_M_add 13 = .ok (.aload_n 0, 1) := by decide +kernel
theorem d_M_add_14 : decode b_M_add 14 = .ok (.getfield 174, 3) := by decide +kernel
theorem d_M_add_17 : decode b_M_add 17 = .ok (.bipush 8, 2) := by decide +kernel
theorem d_M_add_19 : decode b_M_add 19 = .ok (.idiv, 1) := by decide +kernel
theorem d_M_add_20 : decode b_M_add 20 = .ok (.aload_n 0, 1) := by decide +kernel
theorem d_M_add_21 : decode b_M_add 21 = .ok (.getfield 148, 3) := by decide +kernel
theorem d_M_add_24 : decode b_M_add 24 = .ok (.aload_n 0, 1) := by decide +kernel
theorem d_M_add_25 : decode b_M_add 25 = .ok (.getfield 174, 3) := by decide +kernel
theorem d_M_add_28 : decode b_M_add 28 = .ok (.bipush 8, 2) := by decide +kernel
theorem d_M_add_30 : decode b_M_add 30 = .ok (.idiv, 1) := by decide +kernel
theorem d_M_add_31 : decode b_M_add 31 = .ok (.laload, 1) := by decide +kernel
theorem d_M_add_32 : decode b_M_add 32 = .ok (.iload_n 1, 1) := by decide +kernel
theorem d_M_add_33 : decode b_M_add 33 = .ok (.invokestatic 177, 3) := by decide +kernel
theorem d_M_add_36 : decode b_M_add 36 = .ok (.i2l, 1) := by decide +kernel
theorem d_M_add_37 : decode b_M_add 37 = .ok (.bipush 56, 2) := by decide +kernel
theorem d_M_add_39 : decode b_M_add 39 = .ok (.bipush 8, 2) := by decide +kernel
theorem d_M_add_41 : decode b_M_add 41 = .ok (.aload_n 0, 1) := by decide +kernel
theorem d_M_add_42 : decode b_M_add 42 = .ok (.getfield 174, 3) := by decide +kernel
theorem d_M_add_45 : decode b_M_add 45 = .ok (.bipush 8, 2) := by decide +kernel
theorem d_M_add_47 : decode b_M_add 47 = .ok (.irem, 1) := by decide +kernel
theorem d_M_add_48 : decode b_M_add 48 = .ok (.imul, 1) := by decide +kernel
theorem d_M_add_49 : decode b_M_add 49 = .ok (.isub, 1) := by decide +kernel
theorem d_M_add_50 : decode b_M_add 50 = .ok (.lshl, 1) := by decide +kernel
theorem d_M_add_51 : decode b_M_add 51 = .ok (.lor, 1) := by decide +kernel
theorem d_M_add_52 : decode b_M_add 52 = .ok (.lastore, 1) := by decide +kernel
theorem d_M_add_53 : decode b_M_add 53 = .ok (.aload_n 0, 1) := by decide +kernel
theorem d_M_add_54 : decode b_M_add 54 = .ok (.getfield 174, 3) := by decide +kernel
theorem d_M_add_57 : decode b_M_add 57 = .ok (.sipush 1010, 3) := by decide +kernel
theorem d_M_add_60 : decode b_M_add 60 = .ok (.if_icmp .ge 13, 3) := by decide +kernel
theorem d_M_add_63 : decode b_M_add 63 = .ok (.aload_n 0, 1) := by decide +kernel
theorem d_M_add_64 : decode b_M_add 64 = .ok (.getfield 151, 3) := by decide +kernel
theorem d_M_add_67 : decode b_M_add 67 = .ok (.aload_n 0, 1) := by decide +kernel
theorem d_M_add_68 : decode b_M_add 68 = .ok (.getfield 174, 3) := by decide +kernel
theorem d_M_add_71 : decode b_M_add 71 = .ok (.iload_n 1, 1) := by decide +kernel
theorem d_M_add_72 : decode b_M_add 72 = .ok (.iastore, 1) := by decide +kernel
theorem d_M_add_73 : decode b_M_add 73 = .ok (.aload_n 0, 1) := by decide +kernel
theorem d_M_add_74 : decode b_M_add 74 = .ok (.aload_n 0, 1) := by decide +kernel
theorem d_M_add_75 : decode b_M_add 75 = .ok (.getfield 174, 3) := by decide +kernel
theorem d_M_add_78 : decode b_M_add 78 = .ok (.iconst 1, 1) := by decide +kernel
theorem d_M_add_79 : decode b_M_add 79 = .ok (.iadd, 1) := by decide +kernel
theorem d_M_add_80 : decode b_M_add 80 = .ok (.putfield 174, 3) := by decide +kernel
theorem d_M_add_83 : decode b_M_add 83 = .ok (.return_, 1) := by decide +kernel
theorem d_M_begin_0 : decode b_M_begin 0 = .ok (.aload_n 0, 1) := by decide +kernel
theorem d_M_begin_1 : decode b_M_begin 1 = .ok (.iconst 0, 1) := by decide +kernel
theorem d_M_begin_2 : decode b_M_begin 2 = .ok (.putfield 174, 3) := by decide +kernel
theorem d_M_begin_5 : decode b_M_begin 5 = .ok (.iconst 0, 1) := by decide +kernel
theorem d_M_begin_6 : decode b_M_begin 6 = .ok (.istore_n 1, 1) := by decide +kernel
theorem d_M_begin_7 : decode b_M_begin 7 = .ok (.iload_n 1, 1) := by decide +kernel
theorem d_M_begin_8 : decode b_M_begin 8 = .ok (.iconst 4, 1) := by decide +kernel
theorem d_M_begin_9 : decode b_M_begin 9 = .ok (.if_icmp .ge 16, 3) := by decide +kernel
theorem d_M_begin_12 : decode b_M_begin 12 = .ok (.aload_n 0, 1) := by decide +kernel
theorem d_M_begin_13 : decode b_M_begin 13 = .ok (.getfield 148, 3) := by decide +kernel
theorem d_M_begin_16 : decode b_M_begin 16 = .ok (.iload_n 1, 1) := by decide +kernel
theorem d_M_begin_17 : decode b_M_begin 17 = .ok (.lconst 0, 1) := by decide +kernel
theorem d_M_begin_18 : decode b_M_begin 18 = .ok (.lastore, 1) := by decide +kernel
theorem d_M_begin_19 : decode b_M_begin 19 = .ok (.iinc 1 1, 3) := by decide +kernel
theorem d_M_begin_22 : decode b_M_begin 22 = .ok (.goto (-15), 3) := by decide +kernel
theorem d_M_begin_25 : decode b_M_begin 25 = .ok (.return_, 1) := by decide +kernel
theorem d_M_check_0 : decode b_M_check 0 = .ok (.aload_n 0, 1) := by decide +kernel
theorem d_M_check_1 : decode b_M_check 1 = .ok (.iconst (-1), 1) := by decide +kernel
theorem d_M_check_2 : decode b_M_check 2 = .ok (.putfield 154, 3) := by decide +kernel
theorem d_M_check_5 : decode b_M_check 5 = .ok (.aload_n 0, 1) := by decide +kernel
theorem d_M_check_6 : decode b_M_check 6 = .ok (.iconst 0, 1) := by decide +kernel
theorem d_M_check_7 : decode b_M_check 7 = .ok (.putfield 164, 3) := by decide +kernel
theorem d_M_check_10 : decode b_M_check 10 = .ok (.aload_n 0, 1) := by decide +kernel
theorem d_M_check_11 : decode b_M_check 11 = .ok (.iconst 0, 1) := by decide +kernel
theorem d_M_check_12 : decode b_M_check 12 = .ok (.putfield 261, 3) := by decide +kernel
theorem d_M_check_15 : decode b_M_check 15 = .ok (.aload_n 0, 1) := by decide +kernel
theorem d_M_check_16 : decode b_M_check 16 = .ok (.iconst 0, 1) := by decide +kernel
theorem d_M_check_17 : decode b_M_check 17 = .ok (.putfield 264, 3) := by decide +kernel
theorem d_M_check_20 : decode b_M_check 20 = .ok (.aload_n 0, 1) := by decide +kernel
theorem d_M_check_21 : decode b_M_check 21 = .ok (.iconst 0, 1) := by decide +kernel
theorem d_M_check_22 : decode b_M_check 22 = .ok (.putfield 255, 3) := by decide +kernel
theorem d_M_check_25 : decode b_M_check 25 = .ok (.aload_n 0, 1) := by decide +kernel
theorem d_M_check_26 : decode b_M_check 26 = .ok (.iconst 0, 1) := by decide +kernel
theorem d_M_check_27 : decode b_M_check 27 = .ok (.putfield 324, 3) := by decide +kernel
theorem d_M_check_30 : decode b_M_check 30 = .ok (.aload_n 0, 1) := by decide +kernel
theorem d_M_check_31 : decode b_M_check 31 = .ok (.iconst 0, 1) := by decide +kernel
theorem d_M_check_32 : decode b_M_check 32 = .ok (.putfield 311, 3) := by decide +kernel
theorem d_M_check_35 : decode b_M_check 35 = .ok (.aload_n 0, 1) := by decide +kernel
theorem d_M_check_36 : decode b_M_check 36 = .ok (.iconst 0, 1) := by decide +kernel
theorem d_M_check_37 : decode b_M_check 37 = .ok (.putfield 243, 3) := by decide +kernel
theorem d_M_check_40 : decode b_M_check 40 = .ok (.aload_n 0, 1) := by decide +kernel
theorem d_M_check_41 : decode b_M_check 41 = .ok (.invokevirtual 252, 3) := by decide +kernel
theorem d_M_check_44 : decode b_M_check 44 = .ok (.aload_n 0, 1) := by decide +kernel
theorem d_M_check_45 : decode b_M_check 45 = .ok (.iconst 0, 1) := by decide +kernel
theorem d_M_check_46 : decode b_M_check 46 = .ok (.invokevirtual 327, 3) := by decide +kernel
theorem d_M_check_49 : decode b_M_check 49 = .ok (.ifCond .eq 21, 3) := by decide +kernel
theorem d_M_check_52 : decode b_M_check 52 = .ok (.aload_n 0, 1) := by decide +kernel
theorem d_M_check_53 : decode b_M_check 53 = .ok (.invokevirtual 252, 3) := by decide +kernel
theorem d_M_check_56 : decode b_M_check 56 = .ok (.aload_n 0, 1) := by decide +kernel
theorem d_M_check_57 : decode b_M_check 57 = .ok (.iconst 1, 1) := by decide +kernel
theorem d_M_check_58 : decode b_M_check 58 = .ok (.invokevirtual 294, 3) := by decide +kernel
theorem d_M_check_61 : decode b_M_check 61 = .ok (.aload_n 0, 1) := by decide +kernel
theorem d_M_check_62 : decode b_M_check 62 = .ok (.bipush 59, 2) := by decide +kernel
theorem d_M_check_64 : decode b_M_check 64 = .ok (.invokevirtual 273, 3) := by decide +kernel
theorem d_M_check_67 : decode b_M_check 67 = .ok (.goto (-23), 3) := by decide +kernel
theorem d_M_check_70 : decode b_M_check 70 = .ok (.aload_n 0, 1) := by decide +kernel
theorem d_M_check_71 : decode b_M_check 71 = .ok (.iconst 0, 1) := by decide +kernel
theorem d_M_check_72 : decode b_M_check 72 = .ok (.invokevirtual 279, 3) := by decide +kernel
theorem d_M_check_75 : decode b_M_check 75 = .ok (.aload_n 0, 1) := by decide +kernel
theorem d_M_check_76 : decode b_M_check 76 = .ok (.getfield 243, 3) := by decide +kernel
theorem d_M_check_79 : decode b_M_check 79 = .ok (.ifCond .le 29, 3) := by decide +kernel
theorem d_M_check_82 : decode b_M_check 82 = .ok (.aload_n 0, 1) := by decide +kernel
theorem d_M_check_83 : decode b_M_check 83 = .ok (.aload_n 0, 1) := by decide +kernel
theorem d_M_check_84 : decode b_M_check 84 = .ok (.getfield 243, 3) := by decide +kernel
theorem d_M_check_87 : decode b_M_check 87 = .ok (.iconst 1, 1) := by decide +kernel
theorem d_M_check_88 : decode b_M_check 88 = .ok (.isub, 1) := by decide +kernel
theorem d_M_check_89 : decode b_M_check 89 = .ok (.putfield 243, 3) := by decide +kernel
theorem d_M_check_92 : decode b_M_check 92 = .ok (.aload_n 0, 1) := by decide +kernel
theorem d_M_check_93 : decode b_M_check 93 = .ok (.aload_n 0, 1) := by decide +kernel
theorem d_M_check_94 : decode b_M_check 94 = .ok (.getfield 158, 3) := by decide +kernel
theorem d_M_check_97 : decode b_M_check 97 = .ok (.aload_n 0, 1) := by decide +kernel
theorem d_M_check_98 : decode b_M_check 98 = .ok (.getfield 243, 3) := by decide +kernel
theorem d_M_check_101 : decode b_M_check 101 = .ok (.iaload, 1) := by decide +kernel
theorem d_M_check_102 : decode b_M_check 102 = .ok (.invokevirtual 333, 3) := by decide +kernel
theorem d_M_check_105 : decode b_M_check 105 = .ok (.goto (-30), 3) := by decide +kernel
theorem d_M_check_108 : decode b_M_check 108 = .ok (.aload_n 0, 1) := by decide +kernel
theorem d_M_check_109 : decode b_M_check 109 = .ok (.aload_n 0, 1) := by decide +kernel
theorem d_M_check_110 : decode b_M_check 110 = .ok (.getfield 154, 3) := by decide +kernel
theorem d_M_check_113 : decode b_M_check 113 = .ok (.ifCond .ge 7, 3) := by decide +kernel
theorem d_M_check_116 : decode b_M_check 116 = .ok (.iconst 0, 1) := by decide +kernel
theorem d_M_check_117 : decode b_M_check 117 = .ok (.goto 4, 3) := by decide +kernel
theorem d_M_check_120 : decode b_M_check 120 = .ok (.iconst 1, 1) := by decide +kernel
theorem d_M_check_121 : decode b_M_check 121 = .ok (.putfield 336, 3) := by decide +kernel
theorem d_M_check_124 : decode b_M_check 124 = .ok (.iconst 0, 1) := by decide +kernel
theorem d_M_check_125 : decode b_M_check 125 = .ok (.istore_n 1, 1) := by decide +kernel
theorem d_M_check_126 : decode b_M_check 126 = .ok (.iload_n 1, 1) := by decide +kernel
theorem d_M_check_127 : decode b_M_check 127 = .ok (.aload_n 0, 1) := by decide +kernel
theorem d_M_check_128 : decode b_M_check 128 = .ok (.getfield 154, 3) := by decide +kernel
theorem d_M_check_131 : decode b_M_check 131 = .ok (.if_icmp .ge 37, 3) := by decide +kernel
theorem d_M_check_134 : decode b_M_check 134 = .ok (.aload_n 0, 1) := by decide +kernel
theorem d_M_check_135 : decode b_M_check 135 = .ok (.aload_n 0, 1) := by decide +kernel
theorem d_M_check_136 : decode b_M_check 136 = .ok (.getfield 145, 3) := by decide +kernel
theorem d_M_check_139 : decode b_M_check 139 = .ok (.iload_n 1, 1) := by decide +kernel
theorem d_M_check_140 : decode b_M_check 140 = .ok (.iaload, 1) := by decide +kernel
theorem d_M_check_141 : decode b_M_check 141 = .ok (.bipush 10, 2) := by decide +kernel
theorem d_M_check_143 : decode b_M_check 143 = .ok (.if_icmp .ne 12, 3) := by decide +kernel
theorem d_M_check_146 : decode b_M_check 146 = .ok (.aload_n 0, 1) := by decide +kernel
theorem d_M_check_147 : decode b_M_check 147 = .ok (.getfield 336, 3) := by decide +kernel
theorem d_M_check_150 : decode b_M_check 150 = .ok (.iconst 1, 1) := by decide +kernel
theorem d_M_check_151 : decode b_M_check 151 = .ok (.iadd, 1) := by decide +kernel
theorem d_M_check_152 : decode b_M_check 152 = .ok (.goto 7, 3) := by decide +kernel
theorem d_M_check_155 : decode b_M_check 155 = .ok (.aload_n 0, 1) := by decide +kernel
theorem d_M_check_156 : decode b_M_check 156 = .ok (.getfield 336, 3) := by decide +kernel
theorem d_M_check_159 : decode b_M_check 159 = .ok (.putfield 336, 3) := by decide +kernel
theorem d_M_check_162 : decode b_M_check 162 = .ok (.iinc 1 1, 3) := by decide +kernel
theorem d_M_check_165 : decode b_M_check 165 = .ok (.goto (-39), 3) := by decide +kernel
theorem d_M_check_168 : decode b_M_check 168 = .ok (.aload_n 0, 1) := by decide +kernel
theorem d_M_check_169 : decode b_M_check 169 = .ok (.iconst 0, 1) := by decide +kernel
theorem d_M_check_170 : decode b_M_check 170 = .ok (.putfield 161, 3) := by decide +kernel
theorem d_M_check_173 : decode b_M_check 173 = .ok (.aload_n 0, 1) := by decide +kernel
theorem d_M_check_174 : decode b_M_check 174 = .ok (.getfield 336, 3) := by decide +kernel
theorem d_M_check_177 : decode b_M_check 177 = .ok (.ireturn, 1) := by decide +kernel
theorem d_M_command_0 : decode b_M_command 0 = .ok (.aload_n 0, 1) := by decide +kernel
theorem d_M_command_1 : decode b_M_command 1 = .ok (.iconst 1, 1) := by decide +kernel
theorem d_M_command_2 : decode b_M_command 2 = .ok (.bipush 13, 2) := by decide +kernel
theorem d_M_command_4 : decode b_M_command 4 = .ok (.invokevirtual 181, 3) := by decide +kernel
theorem d_M_command_7 : decode b_M_command 7 = .ok (.istore_n 1, 1) := by decide +kernel
theorem d_M_command_8 : decode b_M_command 8 = .ok (.iload_n 1, 1) := by decide +kernel
theorem d_M_command_9 : decode b_M_command 9 = .ok (.iconst 1, 1) := by decide +kernel
theorem d_M_command_10 : decode b_M_command 10 = .ok (.if_icmp .ne 28, 3) := by decide +kernel
theorem d_M_command_13 : decode b_M_command 13 = .ok (.aload_n 0, 1) := by decide +kernel
theorem d_M_command_14 : decode b_M_command 14 = .ok (.iconst 0, 1) := by decide +kernel
theorem d_M_command_15 : decode b_M_command 15 = .ok (.invokevirtual 276, 3) := by decide +kernel
theorem d_M_command_18 : decode b_M_command 18 = .ok (.aload_n 0, 1) := by decide +kernel
theorem d_M_command_19 : decode b_M_command 19 = .ok (.invokevirtual 252, 3) := by decide +kernel
theorem d_M_command_22 : decode b_M_command 22 = .ok (.aload_n 0, 1) := by decide +kernel
theorem d_M_command_23 : decode b_M_command 23 = .ok (.iconst 3, 1) := by decide +kernel
theorem d_M_command_24 : decode b_M_command 24 = .ok (.invokevirtual 279, 3) := by decide +kernel
theorem d_M_command_27 : decode b_M_command 27 = .ok (.aload_n 0, 1) := by decide +kernel
theorem d_M_command_28 : decode b_M_command 28 = .ok (.iconst 2, 1) := by decide +kernel
theorem d_M_command_29 : decode b_M_command 29 = .ok (.invokevirtual 279, 3) := by decide +kernel
theorem d_M_command_32 : decode b_M_command 32 = .ok (.aload_n 0, 1) := by decide +kernel
theorem d_M_command_33 : decode b_M_command 33 = .ok (.iconst 4, 1) := by decide +kernel
theorem d_M_command_34 : decode b_M_command 34 = .ok (.invokevirtual 279, 3) := by decide +kernel
theorem d_M_command_37 : decode b_M_command 37 = .ok (.return_, 1) := by decide +kernel
theorem d_M_command_38 : decode b_M_command 38 = .ok (.iload_n 1, 1) := by decide +kernel
theorem d_M_command_39 : decode b_M_command 39 = .ok (.iconst 4, 1) := by decide +kernel
theorem d_M_command_40 : decode b_M_command 40 = .ok (.if_icmp .ge 8, 3) := by decide +kernel
theorem d_M_command_43 : decode b_M_command 43 = .ok (.aload_n 0, 1) := by decide +kernel
theorem d_M_command_44 : decode b_M_command 44 = .ok (.invokevirtual 202, 3) := by decide +kernel
theorem d_M_command_47 : decode b_M_command 47 = .ok (.return_, 1) := by decide +kernel
theorem d_M_command_48 : decode b_M_command 48 = .ok (.aload_n 0, 1) := by decide +kernel
theorem d_M_command_49 : decode b_M_command 49 = .ok (.iload_n 1, 1) := by decide +kernel
theorem d_M_command_50 : decode b_M_command 50 = .ok (.bipush 7, 2) := by decide +kernel
theorem d_M_command_52 : decode b_M_command 52 = .ok (.if_icmp .ne 7, 3) := by decide +kernel
theorem d_M_command_55 : decode b_M_command 55 = .ok (.iconst 1, 1) := by decide +kernel
theorem d_M_command_56 : decode b_M_command 56 = .ok (.goto 42, 3) := by decide +kernel
theorem d_M_command_59 : decode b_M_command 59 = .ok (.iload_n 1, 1) := by decide +kernel
theorem d_M_command_60 : decode b_M_command 60 = .ok (.bipush 9, 2) := by decide +kernel
theorem d_M_command_62 : decode b_M_command 62 = .ok (.if_icmp .ne 7, 3) := by decide +kernel
theorem d_M_command_65 : decode b_M_command 65 = .ok (.iconst 2, 1) := by decide +kernel
theorem d_M_command_66 : decode b_M_command 66 = .ok (.goto 32, 3) := by decide +kernel
theorem d_M_command_69 : decode b_M_command 69 = .ok (.iload_n 1, 1) := by decide +kernel
theorem d_M_command_70 : decode b_M_command 70 = .ok (.bipush 9, 2) := by decide +kernel
theorem d_M_command_72 : decode b_M_command 72 = .ok (.if_icmp .le 14, 3) := by decide +kernel
theorem d_M_command_75 : decode b_M_command 75 = .ok (.iload_n 1, 1) := by decide +kernel
theorem d_M_command_76 : decode b_M_command 76 = .ok (.bipush 13, 2) := by decide +kernel
theorem d_M_command_78 : decode b_M_command 78 = .ok (.if_icmp .ge 8, 3) := by decide +kernel
theorem d_M_command_81 : decode b_M_command 81 = .ok (.bipush 16, 2) := by decide +kernel
theorem d_M_command_83 : decode b_M_command 83 = .ok (.goto 15, 3) := by decide +kernel
theorem d_M_command_86 : decode b_M_command 86 = .ok (.iload_n 1, 1) := by decide +kernel
theorem d_M_command_87 : decode b_M_command 87 = .ok (.bipush 13, 2) := by decide +kernel
theorem d_M_command_89 : decode b_M_command 89 = .ok (.if_icmp .ne 8, 3) := by decide +kernel
theorem d_M_command_92 : decode b_M_command 92 = .ok (.bipush 64, 2) := by decide +kernel
theorem d_M_command_94 : decode b_M_command 94 = .ok (.goto 4, 3) := by decide +kernel
theorem d_M_command_97 : decode b_M_command 97 = .ok (.iconst 0, 1) := by decide +kernel
theorem d_M_command_98 : decode b_M_command 98 = .ok (.invokevirtual 276, 3) := by decide +kernel
theorem d_M_command_101 : decode b_M_command 101 = .ok (.aload_n 0, 1) := by decide +kernel
theorem d_M_command_102 : decode b_M_command 102 = .ok (.invokevirtual 252, 3) := by decide +kernel
theorem d_M_command_105 : decode b_M_command 105 = .ok (.iload_n 1, 1) := by decide +kernel
theorem d_M_command_106 : decode b_M_command 106 = .ok (.iconst 5, 1) := by decide +kernel
theorem d_M_command_107 : decode b_M_command 107 = .ok (.if_icmp .le 14, 3) := by decide +kernel
theorem d_M_command_110 : decode b_M_command 110 = .ok (.iload_n 1, 1) := by decide +kernel
theorem d_M_command_111 : decode b_M_command 111 = .ok (.bipush 9, 2) := by decide +kernel
theorem d_M_command_113 : decode b_M_command 113 = .ok (.if_icmp .ge 8, 3) := by decide +kernel
theorem d_M_command_116 : decode b_M_command 116 = .ok (.aload_n 0, 1) := by decide +kernel
theorem d_M_command_117 : decode b_M_command 117 = .ok (.iload_n 1, 1) := by decide +kernel
theorem d_M_command_118 : decode b_M_command 118 = .ok (.invokevirtual 282, 3) := by decide +kernel
theorem d_M_command_121 : decode b_M_command 121 = .ok (.iload_n 1, 1) := by decide +kernel
theorem d_M_command_122 : decode b_M_command 122 = .ok (.bipush 7, 2) := by decide +kernel
theorem d_M_command_124 : decode b_M_command 124 = .ok (.if_icmp .ne 7, 3) := by decide +kernel
theorem d_M_command_127 : decode b_M_command 127 = .ok (.aload_n 0, 1) := by decide +kernel
theorem d_M_command_128 : decode b_M_command 128 = .ok (.invokevirtual 285, 3) := by decide +kernel
theorem d_M_command_131 : decode b_M_command 131 = .ok (.iload_n 1, 1) := by decide +kernel
theorem d_M_command_132 : decode b_M_command 132 = .ok (.bipush 8, 2) := by decide +kernel
theorem d_M_command_134 : decode b_M_command 134 = .ok (.if_icmp .ne 7, 3) := by decide +kernel
theorem d_M_command_137 : decode b_M_command 137 = .ok (.aload_n 0, 1) := by decide +kernel
theorem d_M_command_138 : decode b_M_command 138 = .ok (.invokevirtual 288, 3) := by decide +kernel
theorem d_M_command_141 : decode b_M_command 141 = .ok (.iload_n 1, 1) := by decide +kernel
theorem d_M_command_142 : decode b_M_command 142 = .ok (.bipush 9, 2) := by decide +kernel
theorem d_M_command_144 : decode b_M_command 144 = .ok (.if_icmp .ne 7, 3) := by decide +kernel
theorem d_M_command_147 : decode b_M_command 147 = .ok (.aload_n 0, 1) := by decide +kernel
theorem d_M_command_148 : decode b_M_command 148 = .ok (.invokevirtual 291, 3) := by decide +kernel
theorem d_M_command_151 : decode b_M_command 151 = .ok (.iload_n 1, 1) := by decide +kernel
theorem d_M_command_152 : decode b_M_command 152 = .ok (.bipush 9, 2) := by decide +kernel
theorem d_M_command_154 : decode b_M_command 154 = .ok (.if_icmp .le 14, 3) := by decide +kernel
theorem d_M_command_157 : decode b_M_command 157 = .ok (.iload_n 1, 1) := by decide +kernel
theorem d_M_command_158 : decode b_M_command 158 = .ok (.bipush 13, 2) := by decide +kernel
theorem d_M_command_160 : decode b_M_command 160 = .ok (.if_icmp .ge 8, 3) := by decide +kernel
theorem d_M_command_163 : decode b_M_command 163 = .ok (.aload_n 0, 1) := by decide +kernel
theorem d_M_command_164 : decode b_M_command 164 = .ok (.iconst 0, 1) := by decide +kernel
theorem d_M_command_165 : decode b_M_command 165 = .ok (.invokevirtual 294, 3) := by decide +kernel
theorem d_M_command_168 : decode b_M_command 168 = .ok (.iload_n 1, 1) := by decide +kernel
theorem d_M_command_169 : decode b_M_command 169 = .ok (.bipush 13, 2) := by decide +kernel
theorem d_M_command_171 : decode b_M_command 171 = .ok (.if_icmp .ne 7, 3) := by decide +kernel
theorem d_M_command_174 : decode b_M_command 174 = .ok (.aload_n 0, 1) := by decide +kernel
theorem d_M_command_175 : decode b_M_command 175 = .ok (.invokevirtual 298, 3) := by decide +kernel
theorem d_M_command_178 : decode b_M_command 178 = .ok (.aload_n 0, 1) := by decide +kernel
theorem d_M_command_179 : decode b_M_command 179 = .ok (.bipush 59, 2) := by decide +kernel
theorem d_M_command_181 : decode b_M_command 181 = .ok (.invokevirtual 273, 3) := by decide +kernel
theorem d_M_command_184 : decode b_M_command 184 = .ok (.return_, 1) := by decide +kernel
theorem d_M_count_0 : decode b_M_count 0 = .ok (.iload_n 1, 1) := by decide +kernel
theorem d_M_count_1 : decode b_M_count 1 = .ok (.ifCond .ne 10, 3) := by decide +kernel
theorem d_M_count_4 : decode b_M_count 4 = .ok (.aload_n 0, 1) := by decide +kernel
theorem d_M_count_5 : decode b_M_count 5 = .ok (.getfield 161, 3) := by decide +kernel
theorem d_M_count_8 : decode b_M_count 8 = .ok (.goto 40, 3) := by decide +kernel
theorem d_M_count_11 : decode b_M_count 11 = .ok (.iload_n 1, 1) := by decide +kernel
theorem d_M_count_12 : decode b_M_count 12 = .ok (.iconst 1, 1) := by decide +kernel
theorem d_M_count_13 : decode b_M_count 13 = .ok (.if_icmp .ne 10, 3) := by decide +kernel
theorem d_M_count_16 : decode b_M_count 16 = .ok (.aload_n 0, 1) := by decide +kernel
theorem d_M_count_17 : decode b_M_count 17 = .ok (.getfield 261, 3) := by decide +kernel
theorem d_M_count_20 : decode b_M_count 20 = .ok (.goto 28, 3) := by decide +kernel
theorem d_M_count_23 : decode b_M_count 23 = .ok (.iload_n 1, 1) := by decide +kernel
theorem d_M_count_24 : decode b_M_count 24 = .ok (.iconst 2, 1) := by decide +kernel
theorem d_M_count_25 : decode b_M_count 25 = .ok (.if_icmp .ne 10, 3) := by decide +kernel
theorem d_M_count_28 : decode b_M_count 28 = .ok (.aload_n 0, 1) := by decide +kernel
theorem d_M_count_29 : decode b_M_count 29 = .ok (.getfield 264, 3) := by decide +kernel
theorem d_M_count_32 : decode b_M_count 32 = .ok (.goto 16, 3) := by decide +kernel
theorem d_M_count_35 : decode b_M_count 35 = .ok (.iload_n 1, 1) := by decide +kernel
theorem d_M_count_36 : decode b_M_count 36 = .ok (.iconst 3, 1) := by decide +kernel
theorem d_M_count_37 : decode b_M_count 37 = .ok (.if_icmp .ne 10, 3) := by decide +kernel
theorem d_M_count_40 : decode b_M_count 40 = .ok (.aload_n 0, 1) := by decide +kernel
theorem d_M_count_41 : decode b_M_count 41 = .ok (.getfield 255, 3) := by decide +kernel
theorem d_M_count_44 : decode b_M_count 44 = .ok (.goto 4, 3) := by decide +kernel
theorem d_M_count_47 : decode b_M_count 47 = .ok (.iconst (-1), 1) := by decide +kernel
theorem d_M_count_48 : decode b_M_count 48 = .ok (.ireturn, 1) := by decide +kernel
theorem d_M_counting_0 : decode b_M_counting 0 = .ok (.iload_n 1, 1) := by decide +kernel
theorem d_M_counting_1 : decode b_M_counting 1 = .ok (.ifCond .le 8, 3) := by decide +kernel
theorem d_M_counting_4 : decode b_M_counting 4 = .ok (.aload_n 0, 1) := by decide +kernel
theorem d_M_counting_5 : decode b_M_counting 5 = .ok (.iload_n 1, 1) := by decide +kernel
theorem d_M_counting_6 : decode b_M_counting 6 = .ok (.invokevirtual 258, 3) := by decide +kernel
theorem d_M_counting_9 : decode b_M_counting 9 = .ok (.aload_n 0, 1) := by decide +kernel
theorem d_M_counting_10 : decode b_M_counting 10 = .ok (.getfield 261, 3) := by decide +kernel
theorem d_M_counting_13 : decode b_M_counting 13 = .ok (.bipush 40, 2) := by decide +kernel
theorem d_M_counting_15 : decode b_M_counting 15 = .ok (.if_icmp .ne 7, 3) := by decide +kernel
theorem d_M_counting_18 : decode b_M_counting 18 = .ok (.aload_n 0, 1) := by decide +kernel
theorem d_M_counting_19 : decode b_M_counting 19 = .ok (.invokevirtual 202, 3) := by decide +kernel
theorem d_M_counting_22 : decode b_M_counting 22 = .ok (.aload_n 0, 1) := by decide +kernel
theorem d_M_counting_23 : decode b_M_counting 23 = .ok (.getfield 154, 3) := by decide +kernel
theorem d_M_counting_26 : decode b_M_counting 26 = .ok (.ifCond .ge 13, 3) := by decide +kernel
theorem d_M_counting_29 : decode b_M_counting 29 = .ok (.aload_n 0, 1) := by decide +kernel
theorem d_M_counting_30 : decode b_M_counting 30 = .ok (.aload_n 0, 1) := by decide +kernel
theorem d_M_counting_31 : decode b_M_counting 31 = .ok (.getfield 261, 3) := by decide +kernel
theorem d_M_counting_34 : decode b_M_counting 34 = .ok (.iconst 1, 1) := by decide +kernel
theorem d_M_counting_35 : decode b_M_counting 35 = .ok (.iadd, 1) := by decide +kernel
theorem d_M_counting_36 : decode b_M_counting 36 = .ok (.putfield 261, 3) := by decide +kernel
theorem d_M_counting_39 : decode b_M_counting 39 = .ok (.return_, 1) := by decide +kernel
theorem d_M_digits_0 : decode b_M_digits 0 = .ok (.lconst 0, 1) := by decide +kernel
theorem d_M_digits_1 : decode b_M_digits 1 = .ok (.lstore_n 1, 1) := by decide +kernel
theorem d_M_digits_2 : decode b_M_digits 2 = .ok (.aload_n 0, 1) := by decide +kernel
theorem d_M_digits_3 : decode b_M_digits 3 = .ok (.iconst 0, 1) := by decide +kernel
theorem d_M_digits_4 : decode b_M_digits 4 = .ok (.invokevirtual 185, 3) := by decide +kernel
theorem d_M_digits_7 : decode b_M_digits 7 = .ok (.invokestatic 171, 3) := by decide +kernel
theorem d_M_digits_10 : decode b_M_digits 10 = .ok (.ifCond .eq 45, 3) := by decide +kernel
theorem d_M_digits_13 : decode b_M_digits 13 = .ok (.lload_n 1, 1) := by decide +kernel
theorem d_M_digits_14 : decode b_M_digits 14 = .ok (.ldc2_w 230, 3) := by decide +kernel
theorem d_M_digits_17 : decode b_M_digits 17 = .ok (.lcmp, 1) := by decide +kernel
theorem d_M_digits_18 : decode b_M_digits 18 = .ok (.ifCond .ge 22, 3) := by decide +kernel
theorem d_M_digits_21 : decode b_M_digits 21 = .ok (.ldc2_w 232, 3) := by decide +kernel
theorem d_M_digits_24 : decode b_M_digits 24 = .ok (.lload_n 1, 1) := by decide +kernel
theorem d_M_digits_25 : decode b_M_digits 25 = .ok (.lmul, 1) := by decide +kernel
theorem d_M_digits_26 : decode b_M_digits 26 = .ok (.aload_n 0, 1) := by decide +kernel
theorem d_M_digits_27 : decode b_M_digits 27 = .ok (.iconst 0, 1) := by decide +kernel
theorem d_M_digits_28 : decode b_M_digits 28 = .ok (.invokevirtual 185, 3) := by decide +kernel
theorem d_M_digits_31 : decode b_M_digits 31 = .ok (.i2l, 1) := by decide +kernel
theorem d_M_digits_32 : decode b_M_digits 32 = .ok (.ladd, 1) := by decide +kernel
theorem d_M_digits_33 : decode b_M_digits 33 = .ok (.ldc2_w 234, 3) := by decide +kernel
theorem d_M_digits_36 : decode b_M_digits 36 = .ok (.lsub, 1) := by decide +kernel
theorem d_M_digits_37 : decode b_M_digits 37 = .ok (.goto 4, 3) := by decide +kernel
theorem d_M_digits_40 : decode b_M_digits 40 = .ok (.lload_n 1, 1) := by decide +kernel
theorem d_M_digits_41 : decode b_M_digits 41 = .ok (.lstore_n 1, 1) := by decide +kernel
theorem d_M_digits_42 : decode b_M_digits 42 = .ok (.aload_n 0, 1) := by decide +kernel
theorem d_M_digits_43 : decode b_M_digits 43 = .ok (.aload_n 0, 1) := by decide +kernel
theorem d_M_digits_44 : decode b_M_digits 44 = .ok (.getfield 164, 3) := by decide +kernel
theorem d_M_digits_47 : decode b_M_digits 47 = .ok (.iconst 1, 1) := by decide +kernel
theorem d_M_digits_48 : decode b_M_digits 48 = .ok (.iadd, 1) := by decide +kernel
theorem d_M_digits_49 : decode b_M_digits 49 = .ok (.putfield 164, 3) := by decide +kernel
theorem d_M_digits_52 : decode b_M_digits 52 = .ok (.goto (-50), 3) := by decide +kernel
theorem d_M_digits_55 : decode b_M_digits 55 = .ok (.aload_n 0, 1) := by decide +kernel
theorem d_M_digits_56 : decode b_M_digits 56 = .ok (.iconst 0, 1) := by decide +kernel
theorem d_M_digits_57 : decode b_M_digits 57 = .ok (.invokevirtual 185, 3) := by decide +kernel
theorem d_M_digits_60 : decode b_M_digits 60 = .ok (.invokestatic 177, 3) := by decide +kernel
theorem d_M_digits_63 : decode b_M_digits 63 = .ok (.istore_n 3, 1) := by decide +kernel
theorem d_M_digits_64 : decode b_M_digits 64 = .ok (.iload_n 3, 1) := by decide +kernel
theorem d_M_digits_65 : decode b_M_digits 65 = .ok (.bipush 107, 2) := by decide +kernel
theorem d_M_digits_67 : decode b_M_digits 67 = .ok (.if_icmp .eq 15, 3) := by decide +kernel
theorem d_M_digits_70 : decode b_M_digits 70 = .ok (.iload_n 3, 1) := by decide +kernel
theorem d_M_digits_71 : decode b_M_digits 71 = .ok (.bipush 109, 2) := by decide +kernel
theorem d_M_digits_73 : decode b_M_digits 73 = .ok (.if_icmp .eq 9, 3) := by decide +kernel
theorem d_M_digits_76 : decode b_M_digits 76 = .ok (.iload_n 3, 1) := by decide +kernel
theorem d_M_digits_77 : decode b_M_digits 77 = .ok (.bipush 103, 2) := by decide +kernel
theorem d_M_digits_79 : decode b_M_digits 79 = .ok (.if_icmp .ne 54, 3) := by decide +kernel
theorem d_M_digits_82 : decode b_M_digits 82 = .ok (.aload_n 0, 1) := by decide +kernel
theorem d_M_digits_83 : decode b_M_digits 83 = .ok (.aload_n 0, 1) := by decide +kernel
theorem d_M_digits_84 : decode b_M_digits 84 = .ok (.getfield 164, 3) := by decide +kernel
theorem d_M_digits_87 : decode b_M_digits 87 = .ok (.iconst 1, 1) := by decide +kernel
theorem d_M_digits_88 : decode b_M_digits 88 = .ok (.iadd, 1) := by decide +kernel
theorem d_M_digits_89 : decode b_M_digits 89 = .ok (.putfield 164, 3) := by decide +kernel
theorem d_M_digits_92 : decode b_M_digits 92 = .ok (.lload_n 1, 1) := by decide +kernel
theorem d_M_digits_93 : decode b_M_digits 93 = .ok (.ldc2_w 236, 3) := by decide +kernel
theorem d_M_digits_96 : decode b_M_digits 96 = .ok (.lcmp, 1) := by decide +kernel
theorem d_M_digits_97 : decode b_M_digits 97 = .ok (.ifCond .ge 7, 3) := by decide +kernel
theorem d_M_digits_100 : decode b_M_digits 100 = .ok (.lload_n 1, 1) := by decide +kernel
theorem d_M_digits_101 : decode b_M_digits 101 = .ok (.goto 6, 3) := by decide +kernel
theorem d_M_digits_104 : decode b_M_digits 104 = .ok (.ldc2_w 236, 3) := by decide +kernel
theorem d_M_digits_107 : decode b_M_digits 107 = .ok (.iload_n 3, 1) := by decide +kernel
theorem d_M_digits_108 : decode b_M_digits 108 = .ok (.bipush 107, 2) := by decide +kernel
theorem d_M_digits_110 : decode b_M_digits 110 = .ok (.if_icmp .ne 8, 3) := by decide +kernel
theorem d_M_digits_113 : decode b_M_digits 113 = .ok (.bipush 10, 2) := by decide +kernel
theorem d_M_digits_115 : decode b_M_digits 115 = .ok (.goto 16, 3) := by decide +kernel
theorem d_M_digits_118 : decode b_M_digits 118 = .ok (.iload_n 3, 1) := by decide +kernel
theorem d_M_digits_119 : decode b_M_digits 119 = .ok (.bipush 109, 2) := by decide +kernel
theorem d_M_digits_121 : decode b_M_digits 121 = .ok (.if_icmp .ne 8, 3) := by decide +kernel
theorem d_M_digits_124 : decode b_M_digits 124 = .ok (.bipush 20, 2) := by decide +kernel
theorem d_M_digits_126 : decode b_M_digits 126 = .ok (.goto 5, 3) := by decide +kernel
theorem d_M_digits_129 : decode b_M_digits 129 = .ok (.bipush 30, 2) := by decide +kernel
theorem d_M_digits_131 : decode b_M_digits 131 = .ok (.lshl, 1) := by decide +kernel
theorem d_M_digits_132 : decode b_M_digits 132 = .ok (.lstore_n 1, 1) := by decide +kernel
theorem d_M_digits_133 : decode b_M_digits 133 = .ok (.aload_n 0, 1) := by decide +kernel
theorem d_M_digits_134 : decode b_M_digits 134 = .ok (.iconst 0, 1) := by decide +kernel
theorem d_M_digits_135 : decode b_M_digits 135 = .ok (.invokevirtual 185, 3) := by decide +kernel
theorem d_M_digits_138 : decode b_M_digits 138 = .ok (.invokestatic 223, 3) := by decide +kernel
theorem d_M_digits_141 : decode b_M_digits 141 = .ok (.ifCond .ne 11, 3) := by decide +kernel
theorem d_M_digits_144 : decode b_M_digits 144 = .ok (.lload_n 1, 1) := by decide +kernel
theorem d_M_digits_145 : decode b_M_digits 145 = .ok (.ldc2_w 238, 3) := by decide +kernel
theorem d_M_digits_148 : decode b_M_digits 148 = .ok (.lcmp, 1) := by decide +kernel
theorem d_M_digits_149 : decode b_M_digits 149 = .ok (.ifCond .le 7, 3) := by decide +kernel
theorem d_M_digits_152 : decode b_M_digits 152 = .ok (.iconst 5, 1) := by decide +kernel
theorem d_M_digits_153 : decode b_M_digits 153 = .ok (.goto 4, 3) := by decide +kernel
theorem d_M_digits_156 : decode b_M_digits 156 = .ok (.iconst 3, 1) := by decide +kernel
theorem d_M_digits_157 : decode b_M_digits 157 = .ok (.ireturn, 1) := by decide +kernel
theorem d_M_endAt_0 : decode b_M_endAt 0 = .ok (.iload_n 1, 1) := by decide +kernel
theorem d_M_endAt_1 : decode b_M_endAt 1 = .ok (.aload_n 0, 1) := by decide +kernel
theorem d_M_endAt_2 : decode b_M_endAt 2 = .ok (.getfield 161, 3) := by decide +kernel
theorem d_M_endAt_5 : decode b_M_endAt 5 = .ok (.if_icmp .ge 18, 3) := by decide +kernel
theorem d_M_endAt_8 : decode b_M_endAt 8 = .ok (.aload_n 0, 1) := by decide +kernel
theorem d_M_endAt_9 : decode b_M_endAt 9 = .ok (.getfield 145, 3) := by decide +kernel
theorem d_M_endAt_12 : decode b_M_endAt 12 = .ok (.iload_n 1, 1) := by decide +kernel
theorem d_M_endAt_13 : decode b_M_endAt 13 = .ok (.iaload, 1) := by decide +kernel
theorem d_M_endAt_14 : decode b_M_endAt 14 = .ok (.bipush 10, 2) := by decide +kernel
theorem d_M_endAt_16 : decode b_M_endAt 16 = .ok (.if_icmp .ne 7, 3) := by decide +kernel
theorem d_M_endAt_19 : decode b_M_endAt 19 = .ok (.iconst 1, 1) := by decide +kernel
theorem d_M_endAt_20 : decode b_M_endAt 20 = .ok (.goto 42, 3) := by decide +kernel
theorem d_M_endAt_23 : decode b_M_endAt 23 = .ok (.iload_n 1, 1) := by decide +kernel
theorem d_M_endAt_24 : decode b_M_endAt 24 = .ok (.iconst 1, 1) := by decide +kernel
theorem d_M_endAt_25 : decode b_M_endAt 25 = .ok (.iadd, 1) := by decide +kernel
theorem d_M_endAt_26 : decode b_M_endAt 26 = .ok (.aload_n 0, 1) := by decide +kernel
theorem d_M_endAt_27 : decode b_M_endAt 27 = .ok (.getfield 161, 3) := by decide +kernel
theorem d_M_endAt_30 : decode b_M_endAt 30 = .ok (.if_icmp .ge 31, 3) := by decide +kernel
theorem d_M_endAt_33 : decode b_M_endAt 33 = .ok (.aload_n 0, 1) := by decide +kernel
theorem d_M_endAt_34 : decode b_M_endAt 34 = .ok (.getfield 145, 3) := by decide +kernel
theorem d_M_endAt_37 : decode b_M_endAt 37 = .ok (.iload_n 1, 1) := by decide +kernel
theorem d_M_endAt_38 : decode b_M_endAt 38 = .ok (.iaload, 1) := by decide +kernel
theorem d_M_endAt_39 : decode b_M_endAt 39 = .ok (.bipush 13, 2) := by decide +kernel
theorem d_M_endAt_41 : decode b_M_endAt 41 = .ok (.if_icmp .ne 20, 3) := by decide +kernel
theorem d_M_endAt_44 : decode b_M_endAt 44 = .ok (.aload_n 0, 1) := by decide +kernel
theorem d_M_endAt_45 : decode b_M_endAt 45 = .ok (.getfield 145, 3) := by decide +kernel
theorem d_M_endAt_48 : decode b_M_endAt 48 = .ok (.iload_n 1, 1) := by decide +kernel
theorem d_M_endAt_49 : decode b_M_endAt 49 = .ok (.iconst 1, 1) := by decide +kernel
theorem d_M_endAt_50 : decode b_M_endAt 50 = .ok (.iadd, 1) := by decide +kernel
theorem d_M_endAt_51 : decode b_M_endAt 51 = .ok (.iaload, 1) := by decide +kernel
theorem d_M_endAt_52 : decode b_M_endAt 52 = .ok (.bipush 10, 2) := by decide +kernel
theorem d_M_endAt_54 : decode b_M_endAt 54 = .ok (.if_icmp .ne 7, 3) := by decide +kernel
theorem d_M_endAt_57 : decode b_M_endAt 57 = .ok (.iconst 2, 1) := by decide +kernel
theorem d_M_endAt_58 : decode b_M_endAt 58 = .ok (.goto 4, 3) := by decide +kernel
theorem d_M_endAt_61 : decode b_M_endAt 61 = .ok (.iconst 0, 1) := by decide +kernel
theorem d_M_endAt_62 : decode b_M_endAt 62 = .ok (.ireturn, 1) := by decide +kernel
theorem d_M_fail_0 : decode b_M_fail 0 = .ok (.aload_n 0, 1) := by decide +kernel
theorem d_M_fail_1 : decode b_M_fail 1 = .ok (.aload_n 0, 1) := by decide +kernel
theorem d_M_fail_2 : decode b_M_fail 2 = .ok (.getfield 154, 3) := by decide +kernel
theorem d_M_fail_5 : decode b_M_fail 5 = .ok (.ifCond .ge 10, 3) := by decide +kernel
theorem d_M_fail_8 : decode b_M_fail 8 = .ok (.aload_n 0, 1) := by decide +kernel
theorem d_M_fail_9 : decode b_M_fail 9 = .ok (.getfield 192, 3) := by decide +kernel
theorem d_M_fail_12 : decode b_M_fail 12 = .ok (.goto 7, 3) := by decide +kernel
theorem d_M_fail_15 : decode b_M_fail 15 = .ok (.aload_n 0, 1) := by decide +kernel
theorem d_M_fail_16 : decode b_M_fail 16 = .ok (.getfield 154, 3) := by decide +kernel
theorem d_M_fail_19 : decode b_M_fail 19 = .ok (.putfield 154, 3) := by decide +kernel
theorem d_M_fail_22 : decode b_M_fail 22 = .ok (.aload_n 0, 1) := by decide +kernel
theorem d_M_fail_23 : decode b_M_fail 23 = .ok (.iconst 0, 1) := by decide +kernel
theorem d_M_fail_24 : decode b_M_fail 24 = .ok (.putfield 199, 3) := by decide +kernel
theorem d_M_fail_27 : decode b_M_fail 27 = .ok (.aload_n 0, 1) := by decide +kernel
theorem d_M_fail_28 : decode b_M_fail 28 = .ok (.iconst 0, 1) := by decide +kernel
theorem d_M_fail_29 : decode b_M_fail 29 = .ok (.putfield 243, 3) := by decide +kernel
theorem d_M_fail_32 : decode b_M_fail 32 = .ok (.return_, 1) := by decide +kernel
theorem d_M_file_0 : decode b_M_file 0 = .ok (.aload_n 0, 1) := by decide +kernel
theorem d_M_file_1 : decode b_M_file 1 = .ok (.invokevirtual 267, 3) := by decide +kernel
theorem d_M_file_4 : decode b_M_file 4 = .ok (.aload_n 0, 1) := by decide +kernel
theorem d_M_file_5 : decode b_M_file 5 = .ok (.getfield 174, 3) := by decide +kernel
theorem d_M_file_8 : decode b_M_file 8 = .ok (.ifCond .le 16, 3) := by decide +kernel
theorem d_M_file_11 : decode b_M_file 11 = .ok (.aload_n 0, 1) := by decide +kernel
theorem d_M_file_12 : decode b_M_file 12 = .ok (.getfield 174, 3) := by decide +kernel
theorem d_M_file_15 : decode b_M_file 15 = .ok (.bipush 20, 2) := by decide +kernel
theorem d_M_file_17 : decode b_M_file 17 = .ok (.if_icmp .gt 7, 3) := by decide +kernel
theorem d_M_file_20 : decode b_M_file 20 = .ok (.iconst 1, 1) := by decide +kernel
theorem d_M_file_21 : decode b_M_file 21 = .ok (.goto 4, 3) := by decide +kernel
theorem d_M_file_24 : decode b_M_file 24 = .ok (.iconst 0, 1) := by decide +kernel
theorem d_M_file_25 : decode b_M_file 25 = .ok (.istore_n 1, 1) := by decide +kernel
theorem d_M_file_26 : decode b_M_file 26 = .ok (.iconst 0, 1) := by decide +kernel
theorem d_M_file_27 : decode b_M_file 27 = .ok (.istore_n 2, 1) := by decide +kernel
theorem d_M_file_28 : decode b_M_file 28 = .ok (.iload_n 2, 1) := by decide +kernel
theorem d_M_file_29 : decode b_M_file 29 = .ok (.aload_n 0, 1) := by decide +kernel
theorem d_M_file_30 : decode b_M_file 30 = .ok (.getfield 174, 3) := by decide +kernel
theorem d_M_file_33 : decode b_M_file 33 = .ok (.if_icmp .ge 52, 3) := by decide +kernel
theorem d_M_file_36 : decode b_M_file 36 = .ok (.iload_n 1, 1) := by decide +kernel
theorem d_M_file_37 : decode b_M_file 37 = .ok (.ifCond .eq 48, 3) := by decide +kernel
theorem d_M_file_40 : decode b_M_file 40 = .ok (.aload_n 0, 1) := by decide +kernel
theorem d_M_file_41 : decode b_M_file 41 = .ok (.getfield 151, 3) := by decide +kernel
theorem d_M_file_44 : decode b_M_file 44 = .ok (.iload_n 2, 1) := by decide +kernel
theorem d_M_file_45 : decode b_M_file 45 = .ok (.iaload, 1) := by decide +kernel
theorem d_M_file_46 : decode b_M_file 46 = .ok (.bipush 32, 2) := by decide +kernel
theorem d_M_file_48 : decode b_M_file 48 = .ok (.if_icmp .lt 29, 3) := by decide +kernel
theorem d_M_file_51 : decode b_M_file 51 = .ok (.aload_n 0, 1) := by decide +kernel
theorem d_M_file_52 : decode b_M_file 52 = .ok (.getfield 151, 3) := by decide +kernel
theorem d_M_file_55 : decode b_M_file 55 = .ok (.iload_n 2, 1) := by decide +kernel
theorem d_M_file_56 : decode b_M_file 56 = .ok (.iaload, 1) := by decide +kernel
theorem d_M_file_57 : decode b_M_file 57 = .ok (.bipush 127, 2) := by decide +kernel
theorem d_M_file_59 : decode b_M_file 59 = .ok (.if_icmp .ge 18, 3) := by decide +kernel
theorem d_M_file_62 : decode b_M_file 62 = .ok (.aload_n 0, 1) := by decide +kernel
theorem d_M_file_63 : decode b_M_file 63 = .ok (.getfield 151, 3) := by decide +kernel
theorem d_M_file_66 : decode b_M_file 66 = .ok (.iload_n 2, 1) := by decide +kernel
theorem d_M_file_67 : decode b_M_file 67 = .ok (.iaload, 1) := by decide +kernel
theorem d_M_file_68 : decode b_M_file 68 = .ok (.bipush 34, 2) := by decide +kernel
theorem d_M_file_70 : decode b_M_file 70 = .ok (.if_icmp .eq 7, 3) := by decide +kernel
theorem d_M_file_73 : decode b_M_file 73 = .ok (.iconst 1, 1) := by decide +kernel
theorem d_M_file_74 : decode b_M_file 74 = .ok (.goto 4, 3) := by decide +kernel
theorem d_M_file_77 : decode b_M_file 77 = .ok (.iconst 0, 1) := by decide +kernel
theorem d_M_file_78 : decode b_M_file 78 = .ok (.istore_n 1, 1) := by decide +kernel
theorem d_M_file_79 : decode b_M_file 79 = .ok (.iinc 2 1, 3) := by decide +kernel
theorem d_M_file_82 : decode b_M_file 82 = .ok (.goto (-54), 3) := by decide +kernel
theorem d_M_file_85 : decode b_M_file 85 = .ok (.iload_n 1, 1) := by decide +kernel
theorem d_M_file_86 : decode b_M_file 86 = .ok (.ifCond .ne 7, 3) := by decide +kernel
theorem d_M_file_89 : decode b_M_file 89 = .ok (.aload_n 0, 1) := by decide +kernel
theorem d_M_file_90 : decode b_M_file 90 = .ok (.invokevirtual 202, 3) := by decide +kernel
theorem d_M_file_93 : decode b_M_file 93 = .ok (.aload_n 0, 1) := by decide +kernel
theorem d_M_file_94 : decode b_M_file 94 = .ok (.invokevirtual 252, 3) := by decide +kernel
theorem d_M_file_97 : decode b_M_file 97 = .ok (.return_, 1) := by decide +kernel
theorem d_M_how_0 : decode b_M_how 0 = .ok (.iconst 0, 1) := by decide +kernel
theorem d_M_how_1 : decode b_M_how 1 = .ok (.istore_n 2, 1) := by decide +kernel
theorem d_M_how_2 : decode b_M_how 2 = .ok (.aload_n 0, 1) := by decide +kernel
theorem d_M_how_3 : decode b_M_how 3 = .ok (.iconst 2, 1) := by decide +kernel
theorem d_M_how_4 : decode b_M_how 4 = .ok (.invokevirtual 246, 3) := by decide +kernel
theorem d_M_how_7 : decode b_M_how 7 = .ok (.ifCond .eq 131, 3) := by decide +kernel
theorem d_M_how_10 : decode b_M_how 10 = .ok (.aload_n 0, 1) := by decide +kernel
theorem d_M_how_11 : decode b_M_how 11 = .ok (.bipush 33, 2) := by decide +kernel
theorem d_M_how_13 : decode b_M_how 13 = .ok (.bipush 9, 2) := by decide +kernel
theorem d_M_how_15 : decode b_M_how 15 = .ok (.invokevirtual 181, 3) := by decide +kernel
theorem d_M_how_18 : decode b_M_how 18 = .ok (.istore_n 3, 1) := by decide +kernel
theorem d_M_how_19 : decode b_M_how 19 = .ok (.iload_n 3, 1) := by decide +kernel
theorem d_M_how_20 : decode b_M_how 20 = .ok (.ifCond .ge 7, 3) := by decide +kernel
theorem d_M_how_23 : decode b_M_how 23 = .ok (.iconst 0, 1) := by decide +kernel
theorem d_M_how_24 : decode b_M_how 24 = .ok (.goto 24, 3) := by decide +kernel
theorem d_M_how_27 : decode b_M_how 27 = .ok (.iload_n 3, 1) := by decide +kernel
theorem d_M_how_28 : decode b_M_how 28 = .ok (.bipush 38, 2) := by decide +kernel
theorem d_M_how_30 : decode b_M_how 30 = .ok (.if_icmp .ge 7, 3) := by decide +kernel
theorem d_M_how_33 : decode b_M_how 33 = .ok (.iconst 1, 1) := by decide +kernel
theorem d_M_how_34 : decode b_M_how 34 = .ok (.goto 14, 3) := by decide +kernel
theorem d_M_how_37 : decode b_M_how 37 = .ok (.iload_n 3, 1) := by decide +kernel
theorem d_M_how_38 : decode b_M_how 38 = .ok (.bipush 38, 2) := by decide +kernel
theorem d_M_how_40 : decode b_M_how 40 = .ok (.if_icmp .ne 7, 3) := by decide +kernel
theorem d_M_how_43 : decode b_M_how 43 = .ok (.iconst 2, 1) := by decide +kernel
theorem d_M_how_44 : decode b_M_how 44 = .ok (.goto 4, 3) := by decide +kernel
theorem d_M_how_47 : decode b_M_how 47 = .ok (.iconst 4, 1) := by decide +kernel
theorem d_M_how_48 : decode b_M_how 48 = .ok (.istore 4, 2) := by decide +kernel
theorem d_M_how_50 : decode b_M_how 50 = .ok (.iload_n 3, 1) := by decide +kernel
theorem d_M_how_51 : decode b_M_how 51 = .ok (.ifCond .lt 20, 3) := by decide +kernel
theorem d_M_how_54 : decode b_M_how 54 = .ok (.iload_n 2, 1) := by decide +kernel
theorem d_M_how_55 : decode b_M_how 55 = .ok (.iload 4, 2) := by decide +kernel
theorem d_M_how_57 : decode b_M_how 57 = .ok (.iand, 1) := by decide +kernel
theorem d_M_how_58 : decode b_M_how 58 = .ok (.ifCond .ne 13, 3) := by decide +kernel
theorem d_M_how_61 : decode b_M_how 61 = .ok (.iload 4, 2) := by decide +kernel
theorem d_M_how_63 : decode b_M_how 63 = .ok (.iconst 4, 1) := by decide +kernel
theorem d_M_how_64 : decode b_M_how 64 = .ok (.if_icmp .ne 11, 3) := by decide +kernel
theorem d_M_how_67 : decode b_M_how 67 = .ok (.iload_n 1, 1) := by decide +kernel
theorem d_M_how_68 : decode b_M_how 68 = .ok (.ifCond .ne 7, 3) := by decide +kernel
theorem d_M_how_71 : decode b_M_how 71 = .ok (.aload_n 0, 1) := by decide +kernel
theorem d_M_how_72 : decode b_M_how 72 = .ok (.invokevirtual 202, 3) := by decide +kernel
theorem d_M_how_75 : decode b_M_how 75 = .ok (.iload_n 3, 1) := by decide +kernel
theorem d_M_how_76 : decode b_M_how 76 = .ok (.bipush 36, 2) := by decide +kernel
theorem d_M_how_78 : decode b_M_how 78 = .ok (.if_icmp .eq 9, 3) := by decide +kernel
theorem d_M_how_81 : decode b_M_how 81 = .ok (.iload_n 3, 1) := by decide +kernel
theorem d_M_how_82 : decode b_M_how 82 = .ok (.bipush 37, 2) := by decide +kernel
theorem d_M_how_84 : decode b_M_how 84 = .ok (.if_icmp .ne 9, 3) := by decide +kernel
theorem d_M_how_87 : decode b_M_how 87 = .ok (.aload_n 0, 1) := by decide +kernel
theorem d_M_how_88 : decode b_M_how 88 = .ok (.bipush 32, 2) := by decide +kernel
theorem d_M_how_90 : decode b_M_how 90 = .ok (.invokevirtual 258, 3) := by decide +kernel
theorem d_M_how_93 : decode b_M_how 93 = .ok (.iload_n 2, 1) := by decide +kernel
theorem d_M_how_94 : decode b_M_how 94 = .ok (.iload 4, 2) := by decide +kernel
theorem d_M_how_96 : decode b_M_how 96 = .ok (.ior, 1) := by decide +kernel
theorem d_M_how_97 : decode b_M_how 97 = .ok (.istore_n 2, 1) := by decide +kernel
theorem d_M_how_98 : decode b_M_how 98 = .ok (.aload_n 0, 1) := by decide +kernel
theorem d_M_how_99 : decode b_M_how 99 = .ok (.invokevirtual 252, 3) := by decide +kernel
theorem d_M_how_102 : decode b_M_how 102 = .ok (.iload_n 3, 1) := by decide +kernel
theorem d_M_how_103 : decode b_M_how 103 = .ok (.bipush 36, 2) := by decide +kernel
theorem d_M_how_105 : decode b_M_how 105 = .ok (.if_icmp .eq 9, 3) := by decide +kernel
theorem d_M_how_108 : decode b_M_how 108 = .ok (.iload_n 3, 1) := by decide +kernel
theorem d_M_how_109 : decode b_M_how 109 = .ok (.bipush 37, 2) := by decide +kernel
theorem d_M_how_111 : decode b_M_how 111 = .ok (.if_icmp .ne 11, 3) := by decide +kernel
theorem d_M_how_114 : decode b_M_how 114 = .ok (.aload_n 0, 1) := by decide +kernel
theorem d_M_how_115 : decode b_M_how 115 = .ok (.bipush 42, 2) := by decide +kernel
theorem d_M_how_117 : decode b_M_how 117 = .ok (.bipush 6, 2) := by decide +kernel
theorem d_M_how_119 : decode b_M_how 119 = .ok (.invokevirtual 317, 3) := by decide +kernel
theorem d_M_how_122 : decode b_M_how 122 = .ok (.iload_n 3, 1) := by decide +kernel
theorem d_M_how_123 : decode b_M_how 123 = .ok (.bipush 38, 2) := by decide +kernel
theorem d_M_how_125 : decode b_M_how 125 = .ok (.if_icmp .ne 10, 3) := by decide +kernel
theorem d_M_how_128 : decode b_M_how 128 = .ok (.aload_n 0, 1) := by decide +kernel
theorem d_M_how_129 : decode b_M_how 129 = .ok (.bipush 48, 2) := by decide +kernel
theorem d_M_how_131 : decode b_M_how 131 = .ok (.iconst 3, 1) := by decide +kernel
theorem d_M_how_132 : decode b_M_how 132 = .ok (.invokevirtual 317, 3) := by decide +kernel
theorem d_M_how_135 : decode b_M_how 135 = .ok (.goto (-133), 3) := by decide +kernel
theorem d_M_how_138 : decode b_M_how 138 = .ok (.return_, 1) := by decide +kernel
theorem d_M_is_0 : decode b_M_is 0 = .ok (.aload_n 0, 1) := by decide +kernel
theorem d_M_is_1 : decode b_M_is 1 = .ok (.getfield 154, 3) := by decide +kernel
theorem d_M_is_4 : decode b_M_is 4 = .ok (.ifCond .ge 15, 3) := by decide +kernel
theorem d_M_is_7 : decode b_M_is 7 = .ok (.aload_n 0, 1) := by decide +kernel
theorem d_M_is_8 : decode b_M_is 8 = .ok (.getfield 199, 3) := by decide +kernel
theorem d_M_is_11 : decode b_M_is 11 = .ok (.iload_n 1, 1) := by decide +kernel
theorem d_M_is_12 : decode b_M_is 12 = .ok (.if_icmp .ne 7, 3) := by decide +kernel
theorem d_M_is_15 : decode b_M_is 15 = .ok (.iconst 1, 1) := by decide +kernel
theorem d_M_is_16 : decode b_M_is 16 = .ok (.goto 4, 3) := by decide +kernel
theorem d_M_is_19 : decode b_M_is 19 = .ok (.iconst 0, 1) := by decide +kernel
theorem d_M_is_20 : decode b_M_is 20 = .ok (.ireturn, 1) := by decide +kernel
theorem d_M_isDigit_0 : decode b_M_isDigit 0 = .ok (.iload_n 0, 1) := by decide +kernel
theorem d_M_isDigit_1 : decode b_M_isDigit 1 = .ok (.bipush 48, 2) := by decide +kernel
theorem d_M_isDigit_3 : decode b_M_isDigit 3 = .ok (.if_icmp .lt 13, 3) := by decide +kernel
theorem d_M_isDigit_6 : decode b_M_isDigit 6 = .ok (.iload_n 0, 1) := by decide +kernel
theorem d_M_isDigit_7 : decode b_M_isDigit 7 = .ok (.bipush 57, 2) := by decide +kernel
theorem d_M_isDigit_9 : decode b_M_isDigit 9 = .ok (.if_icmp .gt 7, 3) := by decide +kernel
theorem d_M_isDigit_12 : decode b_M_isDigit 12 = .ok (.iconst 1, 1) := by decide +kernel
theorem d_M_isDigit_13 : decode b_M_isDigit 13 = .ok (.goto 4, 3) := by decide +kernel
theorem d_M_isDigit_16 : decode b_M_isDigit 16 = .ok (.iconst 0, 1) := by decide +kernel
theorem d_M_isDigit_17 : decode b_M_isDigit 17 = .ok (.ireturn, 1) := by decide +kernel
theorem d_M_isDotted_0 : decode b_M_isDotted 0 = .ok (.iload_n 2, 1) := by decide +kernel
theorem d_M_isDotted_1 : decode b_M_isDotted 1 = .ok (.iload_n 1, 1) := by decide +kernel
theorem d_M_isDotted_2 : decode b_M_isDotted 2 = .ok (.if_icmp .le 14, 3) := by decide +kernel
theorem d_M_isDotted_5 : decode b_M_isDotted 5 = .ok (.iload_n 2, 1) := by decide +kernel
theorem d_M_isDotted_6 : decode b_M_isDotted 6 = .ok (.iload_n 1, 1) := by decide +kernel
theorem d_M_isDotted_7 : decode b_M_isDotted 7 = .ok (.isub, 1) := by decide +kernel
theorem d_M_isDotted_8 : decode b_M_isDotted 8 = .ok (.iload_n 3, 1) := by decide +kernel
theorem d_M_isDotted_9 : decode b_M_isDotted 9 = .ok (.if_icmp .gt 7, 3) := by decide +kernel
theorem d_M_isDotted_12 : decode b_M_isDotted 12 = .ok (.iconst 1, 1) := by decide +kernel
theorem d_M_isDotted_13 : decode b_M_isDotted 13 = .ok (.goto 4, 3) := by decide +kernel
theorem d_M_isDotted_16 : decode b_M_isDotted 16 = .ok (.iconst 0, 1) := by decide +kernel
theorem d_M_isDotted_17 : decode b_M_isDotted 17 = .ok (.istore 5, 2) := by decide +kernel
theorem d_M_isDotted_19 : decode b_M_isDotted 19 = .ok (.iload_n 1, 1) := by decide +kernel
theorem d_M_isDotted_20 : decode b_M_isDotted 20 = .ok (.istore 6, 2) := by decide +kernel
theorem d_M_isDotted_22 : decode b_M_isDotted 22 = .ok (.iload 6, 2) := by decide +kernel
theorem d_M_isDotted_24 : decode b_M_isDotted 24 = .ok (.iload_n 2, 1) := by decide +kernel
theorem d_M_isDotted_25 : decode b_M_isDotted 25 = .ok (.if_icmp .ge 137, 3) := by decide +kernel
theorem d_M_isDotted_28 : decode b_M_isDotted 28 = .ok (.iload 5, 2) := by decide +kernel
theorem d_M_isDotted_30 : decode b_M_isDotted 30 = .ok (.ifCond .eq 132, 3) := by decide +kernel
theorem d_M_isDotted_33 : decode b_M_isDotted 33 = .ok (.aload_n 0, 1) := by decide +kernel
theorem d_M_isDotted_34 : decode b_M_isDotted 34 = .ok (.getfield 151, 3) := by decide +kernel
theorem d_M_isDotted_37 : decode b_M_isDotted 37 = .ok (.iload 6, 2) := by decide +kernel
theorem d_M_isDotted_39 : decode b_M_isDotted 39 = .ok (.iaload, 1) := by decide +kernel
theorem d_M_isDotted_40 : decode b_M_isDotted 40 = .ok (.bipush 46, 2) := by decide +kernel
theorem d_M_isDotted_42 : decode b_M_isDotted 42 = .ok (.if_icmp .ne 7, 3) := by decide +kernel
theorem d_M_isDotted_45 : decode b_M_isDotted 45 = .ok (.iconst 1, 1) := by decide +kernel
theorem d_M_isDotted_46 : decode b_M_isDotted 46 = .ok (.goto 4, 3) := by decide +kernel
theorem d_M_isDotted_49 : decode b_M_isDotted 49 = .ok (.iconst 0, 1) := by decide +kernel
theorem d_M_isDotted_50 : decode b_M_isDotted 50 = .ok (.istore 7, 2) := by decide +kernel
theorem d_M_isDotted_52 : decode b_M_isDotted 52 = .ok (.iload 7, 2) := by decide +kernel
theorem d_M_isDotted_54 : decode b_M_isDotted 54 = .ok (.ifCond .eq 39, 3) := by decide +kernel
theorem d_M_isDotted_57 : decode b_M_isDotted 57 = .ok (.iload 6, 2) := by decide +kernel
theorem d_M_isDotted_59 : decode b_M_isDotted 59 = .ok (.iload_n 1, 1) := by decide +kernel
theorem d_M_isDotted_60 : decode b_M_isDotted 60 = .ok (.if_icmp .le 29, 3) := by decide +kernel
theorem d_M_isDotted_63 : decode b_M_isDotted 63 = .ok (.iload 6, 2) := by decide +kernel
theorem d_M_isDotted_65 : decode b_M_isDotted 65 = .ok (.iconst 1, 1) := by decide +kernel
theorem d_M_isDotted_66 : decode b_M_isDotted 66 = .ok (.iadd, 1) := by decide +kernel
theorem d_M_isDotted_67 : decode b_M_isDotted 67 = .ok (.iload_n 2, 1) := by decide +kernel
theorem d_M_isDotted_68 : decode b_M_isDotted 68 = .ok (.if_icmp .ge 21, 3) := by decide +kernel
theorem d_M_isDotted_71 : decode b_M_isDotted 71 = .ok (.aload_n 0, 1) := by decide +kernel
theorem d_M_isDotted_72 : decode b_M_isDotted 72 = .ok (.getfield 151, 3) := by decide +kernel
theorem d_M_isDotted_75 : decode b_M_isDotted 75 = .ok (.iload 6, 2) := by decide +kernel
theorem d_M_isDotted_77 : decode b_M_isDotted 77 = .ok (.iconst 1, 1) := by decide +kernel
theorem d_M_isDotted_78 : decode b_M_isDotted 78 = .ok (.isub, 1) := by decide +kernel
theorem d_M_isDotted_79 : decode b_M_isDotted 79 = .ok (.iaload, 1) := by decide +kernel
theorem d_M_isDotted_80 : decode b_M_isDotted 80 = .ok (.bipush 46, 2) := by decide +kernel
theorem d_M_isDotted_82 : decode b_M_isDotted 82 = .ok (.if_icmp .eq 7, 3) := by decide +kernel
theorem d_M_isDotted_85 : decode b_M_isDotted 85 = .ok (.iconst 1, 1) := by decide +kernel
theorem d_M_isDotted_86 : decode b_M_isDotted 86 = .ok (.goto 68, 3) := by decide +kernel
theorem d_M_isDotted_89 : decode b_M_isDotted 89 = .ok (.iconst 0, 1) := by decide +kernel
theorem d_M_isDotted_90 : decode b_M_isDotted 90 = .ok (.goto 64, 3) := by decide +kernel
theorem d_M_isDotted_93 : decode b_M_isDotted 93 = .ok (.iload 4, 2) := by decide +kernel
theorem d_M_isDotted_95 : decode b_M_isDotted 95 = .ok (.ifCond .eq 16, 3) := by decide +kernel
theorem d_M_isDotted_98 : decode b_M_isDotted 98 = .ok (.aload_n 0, 1) := by decide +kernel
theorem d_M_isDotted_99 : decode b_M_isDotted 99 = .ok (.getfield 151, 3) := by decide +kernel
theorem d_M_isDotted_102 : decode b_M_isDotted 102 = .ok (.iload 6, 2) := by decide +kernel
theorem d_M_isDotted_104 : decode b_M_isDotted 104 = .ok (.iaload, 1) := by decide +kernel
theorem d_M_isDotted_105 : decode b_M_isDotted 105 = .ok (.invokestatic 305, 3) := by decide +kernel
theorem d_M_isDotted_108 : decode b_M_isDotted 108 = .ok (.goto 46, 3) := by decide +kernel
theorem d_M_isDotted_111 : decode b_M_isDotted 111 = .ok (.aload_n 0, 1) := by decide +kernel
theorem d_M_isDotted_112 : decode b_M_isDotted 112 = .ok (.getfield 151, 3) := by decide +kernel
theorem d_M_isDotted_115 : decode b_M_isDotted 115 = .ok (.iload 6, 2) := by decide +kernel
theorem d_M_isDotted_117 : decode b_M_isDotted 117 = .ok (.iaload, 1) := by decide +kernel
theorem d_M_isDotted_118 : decode b_M_isDotted 118 = .ok (.invokestatic 167, 3) := by decide +kernel
theorem d_M_isDotted_121 : decode b_M_isDotted 121 = .ok (.ifCond .ne 28, 3) := by decide +kernel
theorem d_M_isDotted_124 : decode b_M_isDotted 124 = .ok (.aload_n 0, 1) := by decide +kernel
theorem d_M_isDotted_125 : decode b_M_isDotted 125 = .ok (.getfield 151, 3) := by decide +kernel
theorem d_M_isDotted_128 : decode b_M_isDotted 128 = .ok (.iload 6, 2) := by decide +kernel
theorem d_M_isDotted_130 : decode b_M_isDotted 130 = .ok (.iaload, 1) := by decide +kernel
theorem d_M_isDotted_131 : decode b_M_isDotted 131 = .ok (.invokestatic 171, 3) := by decide +kernel
theorem d_M_isDotted_134 : decode b_M_isDotted 134 = .ok (.ifCond .ne 15, 3) := by decide +kernel
theorem d_M_isDotted_137 : decode b_M_isDotted 137 = .ok (.aload_n 0, 1) := by decide +kernel
theorem d_M_isDotted_138 : decode b_M_isDotted 138 = .ok (.getfield 151, 3) := by decide +kernel
theorem d_M_isDotted_141 : decode b_M_isDotted 141 = .ok (.iload 6, 2) := by decide +kernel
theorem d_M_isDotted_143 : decode b_M_isDotted 143 = .ok (.iaload, 1) := by decide +kernel
theorem d_M_isDotted_144 : decode b_M_isDotted 144 = .ok (.bipush 45, 2) := by decide +kernel
theorem d_M_isDotted_146 : decode b_M_isDotted 146 = .ok (.if_icmp .ne 7, 3) := by decide +kernel
theorem d_M_isDotted_149 : decode b_M_isDotted 149 = .ok (.iconst 1, 1) := by decide +kernel
theorem d_M_isDotted_150 : decode b_M_isDotted 150 = .ok (.goto 4, 3) := by decide +kernel
theorem d_M_isDotted_153 : decode b_M_isDotted 153 = .ok (.iconst 0, 1) := by decide +kernel
theorem d_M_isDotted_154 : decode b_M_isDotted 154 = .ok (.istore 5, 2) := by decide +kernel
theorem d_M_isDotted_156 : decode b_M_isDotted 156 = .ok (.iinc 6 1, 3) := by decide +kernel
theorem d_M_isDotted_159 : decode b_M_isDotted 159 = .ok (.goto (-137), 3) := by decide +kernel
theorem d_M_isDotted_162 : decode b_M_isDotted 162 = .ok (.iload 5, 2) := by decide +kernel
theorem d_M_isDotted_164 : decode b_M_isDotted 164 = .ok (.ireturn, 1) := by decide +kernel
theorem d_M_isLetter_0 : decode b_M_isLetter 0 = .ok (.iload_n 0, 1) := by decide +kernel
theorem d_M_isLetter_1 : decode b_M_isLetter 1 = .ok (.bipush 97, 2) := by decide +kernel
theorem d_M_isLetter_3 : decode b_M_isLetter 3 = .ok (.if_icmp .lt 9, 3) := by decide +kernel
theorem d_M_isLetter_6 : decode b_M_isLetter 6 = .ok (.iload_n 0, 1) := by decide +kernel
theorem d_M_isLetter_7 : decode b_M_isLetter 7 = .ok (.bipush 122, 2) := by decide +kernel
theorem d_M_isLetter_9 : decode b_M_isLetter 9 = .ok (.if_icmp .le 15, 3) := by decide +kernel
theorem d_M_isLetter_12 : decode b_M_isLetter 12 = .ok (.iload_n 0, 1) := by decide +kernel
theorem d_M_isLetter_13 : decode b_M_isLetter 13 = .ok (.bipush 65, 2) := by decide +kernel
theorem d_M_isLetter_15 : decode b_M_isLetter 15 = .ok (.if_icmp .lt 13, 3) := by decide +kernel
theorem d_M_isLetter_18 : decode b_M_isLetter 18 = .ok (.iload_n 0, 1) := by decide +kernel
theorem d_M_isLetter_19 : decode b_M_isLetter 19 = .ok (.bipush 90, 2) := by decide +kernel
theorem d_M_isLetter_21 : decode b_M_isLetter 21 = .ok (.if_icmp .gt 7, 3) := by decide +kernel
theorem d_M_isLetter_24 : decode b_M_isLetter 24 = .ok (.iconst 1, 1) := by decide +kernel
theorem d_M_isLetter_25 : decode b_M_isLetter 25 = .ok (.goto 4, 3) := by decide +kernel
theorem d_M_isLetter_28 : decode b_M_isLetter 28 = .ok (.iconst 0, 1) := by decide +kernel
theorem d_M_isLetter_29 : decode b_M_isLetter 29 = .ok (.ireturn, 1) := by decide +kernel
theorem d_M_isLocal_0 : decode b_M_isLocal 0 = .ok (.iload_n 0, 1) := by decide +kernel
theorem d_M_isLocal_1 : decode b_M_isLocal 1 = .ok (.bipush 33, 2) := by decide +kernel
theorem d_M_isLocal_3 : decode b_M_isLocal 3 = .ok (.if_icmp .eq 75, 3) := by decide +kernel
theorem d_M_isLocal_6 : decode b_M_isLocal 6 = .ok (.iload_n 0, 1) := by decide +kernel
theorem d_M_isLocal_7 : decode b_M_isLocal 7 = .ok (.bipush 35, 2) := by decide +kernel
theorem d_M_isLocal_9 : decode b_M_isLocal 9 = .ok (.if_icmp .lt 9, 3) := by decide +kernel
theorem d_M_isLocal_12 : decode b_M_isLocal 12 = .ok (.iload_n 0, 1) := by decide +kernel
theorem d_M_isLocal_13 : decode b_M_isLocal 13 = .ok (.bipush 39, 2) := by decide +kernel
theorem d_M_isLocal_15 : decode b_M_isLocal 15 = .ok (.if_icmp .le 63, 3) := by decide +kernel
theorem d_M_isLocal_18 : decode b_M_isLocal 18 = .ok (.iload_n 0, 1) := by decide +kernel
theorem d_M_isLocal_19 : decode b_M_isLocal 19 = .ok (.bipush 42, 2) := by decide +kernel
theorem d_M_isLocal_21 : decode b_M_isLocal 21 = .ok (.if_icmp .eq 57, 3) := by decide +kernel
theorem d_M_isLocal_24 : decode b_M_isLocal 24 = .ok (.iload_n 0, 1) := by decide +kernel
theorem d_M_isLocal_25 : decode b_M_isLocal 25 = .ok (.bipush 43, 2) := by decide +kernel
theorem d_M_isLocal_27 : decode b_M_isLocal 27 = .ok (.if_icmp .eq 51, 3) := by decide +kernel
theorem d_M_isLocal_30 : decode b_M_isLocal 30 = .ok (.iload_n 0, 1) := by decide +kernel
theorem d_M_isLocal_31 : decode b_M_isLocal 31 = .ok (.bipush 45, 2) := by decide +kernel
theorem d_M_isLocal_33 : decode b_M_isLocal 33 = .ok (.if_icmp .eq 45, 3) := by decide +kernel
theorem d_M_isLocal_36 : decode b_M_isLocal 36 = .ok (.iload_n 0, 1) := by decide +kernel
theorem d_M_isLocal_37 : decode b_M_isLocal 37 = .ok (.bipush 47, 2) := by decide +kernel
theorem d_M_isLocal_39 : decode b_M_isLocal 39 = .ok (.if_icmp .eq 39, 3) := by decide +kernel
theorem d_M_isLocal_42 : decode b_M_isLocal 42 = .ok (.iload_n 0, 1) := by decide +kernel
theorem d_M_isLocal_43 : decode b_M_isLocal 43 = .ok (.bipush 61, 2) := by decide +kernel
theorem d_M_isLocal_45 : decode b_M_isLocal 45 = .ok (.if_icmp .eq 33, 3) := by decide +kernel
theorem d_M_isLocal_48 : decode b_M_isLocal 48 = .ok (.iload_n 0, 1) := by decide +kernel
theorem d_M_isLocal_49 : decode b_M_isLocal 49 = .ok (.bipush 63, 2) := by decide +kernel
theorem d_M_isLocal_51 : decode b_M_isLocal 51 = .ok (.if_icmp .eq 27, 3) := by decide +kernel
theorem d_M_isLocal_54 : decode b_M_isLocal 54 = .ok (.iload_n 0, 1) := by decide +kernel
theorem d_M_isLocal_55 : decode b_M_isLocal 55 = .ok (.bipush 94, 2) := by decide +kernel
theorem d_M_isLocal_57 : decode b_M_isLocal 57 = .ok (.if_icmp .lt 9, 3) := by decide +kernel
theorem d_M_isLocal_60 : decode b_M_isLocal 60 = .ok (.iload_n 0, 1) := by decide +kernel
theorem d_M_isLocal_61 : decode b_M_isLocal 61 = .ok (.bipush 96, 2) := by decide +kernel
theorem d_M_isLocal_63 : decode b_M_isLocal 63 = .ok (.if_icmp .le 15, 3) := by decide +kernel
theorem d_M_isLocal_66 : decode b_M_isLocal 66 = .ok (.iload_n 0, 1) := by decide +kernel
theorem d_M_isLocal_67 : decode b_M_isLocal 67 = .ok (.bipush 123, 2) := by decide +kernel
theorem d_M_isLocal_69 : decode b_M_isLocal 69 = .ok (.if_icmp .lt 13, 3) := by decide +kernel
theorem d_M_isLocal_72 : decode b_M_isLocal 72 = .ok (.iload_n 0, 1) := by decide +kernel
theorem d_M_isLocal_73 : decode b_M_isLocal 73 = .ok (.bipush 126, 2) := by decide +kernel
theorem d_M_isLocal_75 : decode b_M_isLocal 75 = .ok (.if_icmp .gt 7, 3) := by decide +kernel
theorem d_M_isLocal_78 : decode b_M_isLocal 78 = .ok (.iconst 1, 1) := by decide +kernel
theorem d_M_isLocal_79 : decode b_M_isLocal 79 = .ok (.goto 4, 3) := by decide +kernel
theorem d_M_isLocal_82 : decode b_M_isLocal 82 = .ok (.iconst 0, 1) := by decide +kernel
theorem d_M_isLocal_83 : decode b_M_isLocal 83 = .ok (.istore_n 1, 1) := by decide +kernel
theorem d_M_isLocal_84 : decode b_M_isLocal 84 = .ok (.iload_n 0, 1) := by decide +kernel
theorem d_M_isLocal_85 : decode b_M_isLocal 85 = .ok (.invokestatic 167, 3) := by decide +kernel
theorem d_M_isLocal_88 : decode b_M_isLocal 88 = .ok (.ifCond .ne 14, 3) := by decide +kernel
theorem d_M_isLocal_91 : decode b_M_isLocal 91 = .ok (.iload_n 0, 1) := by decide +kernel
theorem d_M_isLocal_92 : decode b_M_isLocal 92 = .ok (.invokestatic 171, 3) := by decide +kernel
theorem d_M_isLocal_95 : decode b_M_isLocal 95 = .ok (.ifCond .ne 7, 3) := by decide +kernel
theorem d_M_isLocal_98 : decode b_M_isLocal 98 = .ok (.iload_n 1, 1) := by decide +kernel
theorem d_M_isLocal_99 : decode b_M_isLocal 99 = .ok (.ifCond .eq 7, 3) := by decide +kernel
theorem d_M_isLocal_102 : decode b_M_isLocal 102 = .ok (.iconst 1, 1) := by decide +kernel
theorem d_M_isLocal_103 : decode b_M_isLocal 103 = .ok (.goto 4, 3) := by decide +kernel
theorem d_M_isLocal_106 : decode b_M_isLocal 106 = .ok (.iconst 0, 1) := by decide +kernel
theorem d_M_isLocal_107 : decode b_M_isLocal 107 = .ok (.ireturn, 1) := by decide +kernel
theorem d_M_isSign_0 : decode b_M_isSign 0 = .ok (.aload_n 0, 1) := by decide +kernel
theorem d_M_isSign_1 : decode b_M_isSign 1 = .ok (.bipush 100, 2) := by decide +kernel
theorem d_M_isSign_3 : decode b_M_isSign 3 = .ok (.iload_n 1, 1) := by decide +kernel
theorem d_M_isSign_4 : decode b_M_isSign 4 = .ok (.iadd, 1) := by decide +kernel
theorem d_M_isSign_5 : decode b_M_isSign 5 = .ok (.invokevirtual 246, 3) := by decide +kernel
theorem d_M_isSign_8 : decode b_M_isSign 8 = .ok (.ireturn, 1) := by decide +kernel
theorem d_M_isWord_0 : decode b_M_isWord 0 = .ok (.aload_n 0, 1) := by decide +kernel
theorem d_M_isWord_1 : decode b_M_isWord 1 = .ok (.iconst 1, 1) := by decide +kernel
theorem d_M_isWord_2 : decode b_M_isWord 2 = .ok (.invokevirtual 246, 3) := by decide +kernel
theorem d_M_isWord_5 : decode b_M_isWord 5 = .ok (.ifCond .eq 15, 3) := by decide +kernel
theorem d_M_isWord_8 : decode b_M_isWord 8 = .ok (.aload_n 0, 1) := by decide +kernel
theorem d_M_isWord_9 : decode b_M_isWord 9 = .ok (.iload_n 1, 1) := by decide +kernel
theorem d_M_isWord_10 : decode b_M_isWord 10 = .ok (.invokevirtual 211, 3) := by decide +kernel
theorem d_M_isWord_13 : decode b_M_isWord 13 = .ok (.ifCond .eq 7, 3) := by decide +kernel
theorem d_M_isWord_16 : decode b_M_isWord 16 = .ok (.iconst 1, 1) := by decide +kernel
theorem d_M_isWord_17 : decode b_M_isWord 17 = .ok (.goto 4, 3) := by decide +kernel
theorem d_M_isWord_20 : decode b_M_isWord 20 = .ok (.iconst 0, 1) := by decide +kernel
theorem d_M_isWord_21 : decode b_M_isWord 21 = .ok (.ireturn, 1) := by decide +kernel
theorem d_M_isWordByte_0 : decode b_M_isWordByte 0 = .ok (.iload_n 0, 1) := by decide +kernel
theorem d_M_isWordByte_1 : decode b_M_isWordByte 1 = .ok (.invokestatic 167, 3) := by decide +kernel
theorem d_M_isWordByte_4 : decode b_M_isWordByte 4 = .ok (.ifCond .ne 16, 3) := by decide +kernel
theorem d_M_isWordByte_7 : decode b_M_isWordByte 7 = .ok (.iload_n 0, 1) := by decide +kernel
theorem d_M_isWordByte_8 : decode b_M_isWordByte 8 = .ok (.invokestatic 171, 3) := by decide +kernel
theorem d_M_isWordByte_11 : decode b_M_isWordByte 11 = .ok (.ifCond .ne 9, 3) := by decide +kernel
theorem d_M_isWordByte_14 : decode b_M_isWordByte 14 = .ok (.iload_n 0, 1) := by decide +kernel
theorem d_M_isWordByte_15 : decode b_M_isWordByte 15 = .ok (.bipush 95, 2) := by decide +kernel
theorem d_M_isWordByte_17 : decode b_M_isWordByte 17 = .ok (.if_icmp .ne 7, 3) := by decide +kernel
theorem d_M_isWordByte_20 : decode b_M_isWordByte 20 = .ok (.iconst 1, 1) := by decide +kernel
theorem d_M_isWordByte_21 : decode b_M_isWordByte 21 = .ok (.goto 4, 3) := by decide +kernel
theorem d_M_isWordByte_24 : decode b_M_isWordByte 24 = .ok (.iconst 0, 1) := by decide +kernel
theorem d_M_isWordByte_25 : decode b_M_isWordByte 25 = .ok (.ireturn, 1) := by decide +kernel
theorem d_M_like_0 : decode b_M_like 0 = .ok (.aload_n 0, 1) := by decide +kernel
theorem d_M_like_1 : decode b_M_like 1 = .ok (.iload_n 1, 1) := by decide +kernel
theorem d_M_like_2 : decode b_M_like 2 = .ok (.iconst 1, 1) := by decide +kernel
theorem d_M_like_3 : decode b_M_like 3 = .ok (.invokevirtual 181, 3) := by decide +kernel
theorem d_M_like_6 : decode b_M_like 6 = .ok (.iload_n 1, 1) := by decide +kernel
theorem d_M_like_7 : decode b_M_like 7 = .ok (.if_icmp .ne 7, 3) := by decide +kernel
theorem d_M_like_10 : decode b_M_like 10 = .ok (.iconst 1, 1) := by decide +kernel
theorem d_M_like_11 : decode b_M_like 11 = .ok (.goto 4, 3) := by decide +kernel
theorem d_M_like_14 : decode b_M_like 14 = .ok (.iconst 0, 1) := by decide +kernel
theorem d_M_like_15 : decode b_M_like 15 = .ok (.ireturn, 1) := by decide +kernel
theorem d_M_lines_0 : decode b_M_lines 0 = .ok (.aload_n 0, 1) := by decide +kernel
theorem d_M_lines_1 : decode b_M_lines 1 = .ok (.aload_n 0, 1) := by decide +kernel
theorem d_M_lines_2 : decode b_M_lines 2 = .ok (.getfield 164, 3) := by decide +kernel
theorem d_M_lines_5 : decode b_M_lines 5 = .ok (.iconst 1, 1) := by decide +kernel
theorem d_M_lines_6 : decode b_M_lines 6 = .ok (.iadd, 1) := by decide +kernel
theorem d_M_lines_7 : decode b_M_lines 7 = .ok (.putfield 164, 3) := by decide +kernel
theorem d_M_lines_10 : decode b_M_lines 10 = .ok (.aload_n 0, 1) := by decide +kernel
theorem d_M_lines_11 : decode b_M_lines 11 = .ok (.iconst 0, 1) := by decide +kernel
theorem d_M_lines_12 : decode b_M_lines 12 = .ok (.invokevirtual 185, 3) := by decide +kernel
theorem d_M_lines_15 : decode b_M_lines 15 = .ok (.bipush 32, 2) := by decide +kernel
theorem d_M_lines_17 : decode b_M_lines 17 = .ok (.if_icmp .eq 13, 3) := by decide +kernel
theorem d_M_lines_20 : decode b_M_lines 20 = .ok (.aload_n 0, 1) := by decide +kernel
theorem d_M_lines_21 : decode b_M_lines 21 = .ok (.iconst 0, 1) := by decide +kernel
theorem d_M_lines_22 : decode b_M_lines 22 = .ok (.invokevirtual 185, 3) := by decide +kernel
theorem d_M_lines_25 : decode b_M_lines 25 = .ok (.bipush 9, 2) := by decide +kernel
theorem d_M_lines_27 : decode b_M_lines 27 = .ok (.if_icmp .ne 16, 3) := by decide +kernel
theorem d_M_lines_30 : decode b_M_lines 30 = .ok (.aload_n 0, 1) := by decide +kernel
theorem d_M_lines_31 : decode b_M_lines 31 = .ok (.aload_n 0, 1) := by decide +kernel
theorem d_M_lines_32 : decode b_M_lines 32 = .ok (.getfield 164, 3) := by decide +kernel
theorem d_M_lines_35 : decode b_M_lines 35 = .ok (.iconst 1, 1) := by decide +kernel
theorem d_M_lines_36 : decode b_M_lines 36 = .ok (.iadd, 1) := by decide +kernel
theorem d_M_lines_37 : decode b_M_lines 37 = .ok (.putfield 164, 3) := by decide +kernel
theorem d_M_lines_40 : decode b_M_lines 40 = .ok (.goto (-30), 3) := by decide +kernel
theorem d_M_lines_43 : decode b_M_lines 43 = .ok (.aload_n 0, 1) := by decide +kernel
theorem d_M_lines_44 : decode b_M_lines 44 = .ok (.aload_n 0, 1) := by decide +kernel
theorem d_M_lines_45 : decode b_M_lines 45 = .ok (.getfield 164, 3) := by decide +kernel
theorem d_M_lines_48 : decode b_M_lines 48 = .ok (.invokevirtual 240, 3) := by decide +kernel
theorem d_M_lines_51 : decode b_M_lines 51 = .ok (.ifCond .ne 5, 3) := by decide +kernel
theorem d_M_lines_54 : decode b_M_lines 54 = .ok (.iconst 5, 1) := by decide +kernel
theorem d_M_lines_55 : decode b_M_lines 55 = .ok (.ireturn, 1) := by decide +kernel
theorem d_M_lines_56 : decode b_M_lines 56 = .ok (.aload_n 0, 1) := by decide +kernel
theorem d_M_lines_57 : decode b_M_lines 57 = .ok (.aload_n 0, 1) := by decide +kernel
theorem d_M_lines_58 : decode b_M_lines 58 = .ok (.getfield 164, 3) := by decide +kernel
theorem d_M_lines_61 : decode b_M_lines 61 = .ok (.aload_n 0, 1) := by decide +kernel
theorem d_M_lines_62 : decode b_M_lines 62 = .ok (.aload_n 0, 1) := by decide +kernel
theorem d_M_lines_63 : decode b_M_lines 63 = .ok (.getfield 164, 3) := by decide +kernel
theorem d_M_lines_66 : decode b_M_lines 66 = .ok (.invokevirtual 240, 3) := by decide +kernel
theorem d_M_lines_69 : decode b_M_lines 69 = .ok (.iadd, 1) := by decide +kernel
theorem d_M_lines_70 : decode b_M_lines 70 = .ok (.putfield 164, 3) := by decide +kernel
theorem d_M_lines_73 : decode b_M_lines 73 = .ok (.aload_n 0, 1) := by decide +kernel
theorem d_M_lines_74 : decode b_M_lines 74 = .ok (.invokevirtual 205, 3) := by decide +kernel
theorem d_M_lines_77 : decode b_M_lines 77 = .ok (.aload_n 0, 1) := by decide +kernel
theorem d_M_lines_78 : decode b_M_lines 78 = .ok (.iconst 0, 1) := by decide +kernel
theorem d_M_lines_79 : decode b_M_lines 79 = .ok (.invokevirtual 185, 3) := by decide +kernel
theorem d_M_lines_82 : decode b_M_lines 82 = .ok (.bipush 46, 2) := by decide +kernel
theorem d_M_lines_84 : decode b_M_lines 84 = .ok (.if_icmp .ne 16, 3) := by decide +kernel
theorem d_M_lines_87 : decode b_M_lines 87 = .ok (.aload_n 0, 1) := by decide +kernel
theorem d_M_lines_88 : decode b_M_lines 88 = .ok (.aload_n 0, 1) := by decide +kernel
theorem d_M_lines_89 : decode b_M_lines 89 = .ok (.getfield 164, 3) := by decide +kernel
theorem d_M_lines_92 : decode b_M_lines 92 = .ok (.iconst 1, 1) := by decide +kernel
theorem d_M_lines_93 : decode b_M_lines 93 = .ok (.iadd, 1) := by decide +kernel
theorem d_M_lines_94 : decode b_M_lines 94 = .ok (.invokevirtual 240, 3) := by decide +kernel
theorem d_M_lines_97 : decode b_M_lines 97 = .ok (.ifCond .gt 124, 3) := by decide +kernel
theorem d_M_lines_100 : decode b_M_lines 100 = .ok (.aload_n 0, 1) := by decide +kernel
theorem d_M_lines_101 : decode b_M_lines 101 = .ok (.iconst 0, 1) := by decide +kernel
theorem d_M_lines_102 : decode b_M_lines 102 = .ok (.invokevirtual 185, 3) := by decide +kernel
theorem d_M_lines_105 : decode b_M_lines 105 = .ok (.bipush 46, 2) := by decide +kernel
theorem d_M_lines_107 : decode b_M_lines 107 = .ok (.if_icmp .ne 23, 3) := by decide +kernel
theorem d_M_lines_110 : decode b_M_lines 110 = .ok (.aload_n 0, 1) := by decide +kernel
theorem d_M_lines_111 : decode b_M_lines 111 = .ok (.iconst 1, 1) := by decide +kernel
theorem d_M_lines_112 : decode b_M_lines 112 = .ok (.invokevirtual 185, 3) := by decide +kernel
theorem d_M_lines_115 : decode b_M_lines 115 = .ok (.bipush 46, 2) := by decide +kernel
theorem d_M_lines_117 : decode b_M_lines 117 = .ok (.if_icmp .ne 13, 3) := by decide +kernel
theorem d_M_lines_120 : decode b_M_lines 120 = .ok (.aload_n 0, 1) := by decide +kernel
theorem d_M_lines_121 : decode b_M_lines 121 = .ok (.aload_n 0, 1) := by decide +kernel
theorem d_M_lines_122 : decode b_M_lines 122 = .ok (.getfield 164, 3) := by decide +kernel
theorem d_M_lines_125 : decode b_M_lines 125 = .ok (.iconst 1, 1) := by decide +kernel
theorem d_M_lines_126 : decode b_M_lines 126 = .ok (.iadd, 1) := by decide +kernel
theorem d_M_lines_127 : decode b_M_lines 127 = .ok (.putfield 164, 3) := by decide +kernel
theorem d_M_lines_130 : decode b_M_lines 130 = .ok (.aload_n 0, 1) := by decide +kernel
theorem d_M_lines_131 : decode b_M_lines 131 = .ok (.iconst 0, 1) := by decide +kernel
theorem d_M_lines_132 : decode b_M_lines 132 = .ok (.invokevirtual 185, 3) := by decide +kernel
theorem d_M_lines_135 : decode b_M_lines 135 = .ok (.ifCond .lt 36, 3) := by decide +kernel
theorem d_M_lines_138 : decode b_M_lines 138 = .ok (.aload_n 0, 1) := by decide +kernel
theorem d_M_lines_139 : decode b_M_lines 139 = .ok (.aload_n 0, 1) := by decide +kernel
theorem d_M_lines_140 : decode b_M_lines 140 = .ok (.getfield 164, 3) := by decide +kernel
theorem d_M_lines_143 : decode b_M_lines 143 = .ok (.invokevirtual 240, 3) := by decide +kernel
theorem d_M_lines_146 : decode b_M_lines 146 = .ok (.ifCond .ne 25, 3) := by decide +kernel
theorem d_M_lines_149 : decode b_M_lines 149 = .ok (.aload_n 0, 1) := by decide +kernel
theorem d_M_lines_150 : decode b_M_lines 150 = .ok (.aload_n 0, 1) := by decide +kernel
theorem d_M_lines_151 : decode b_M_lines 151 = .ok (.iconst 0, 1) := by decide +kernel
theorem d_M_lines_152 : decode b_M_lines 152 = .ok (.invokevirtual 185, 3) := by decide +kernel
theorem d_M_lines_155 : decode b_M_lines 155 = .ok (.invokevirtual 226, 3) := by decide +kernel
theorem d_M_lines_158 : decode b_M_lines 158 = .ok (.aload_n 0, 1) := by decide +kernel
theorem d_M_lines_159 : decode b_M_lines 159 = .ok (.aload_n 0, 1) := by decide +kernel
theorem d_M_lines_160 : decode b_M_lines 160 = .ok (.getfield 164, 3) := by decide +kernel
theorem d_M_lines_163 : decode b_M_lines 163 = .ok (.iconst 1, 1) := by decide +kernel
theorem d_M_lines_164 : decode b_M_lines 164 = .ok (.iadd, 1) := by decide +kernel
theorem d_M_lines_165 : decode b_M_lines 165 = .ok (.putfield 164, 3) := by decide +kernel
theorem d_M_lines_168 : decode b_M_lines 168 = .ok (.goto (-38), 3) := by decide +kernel
theorem d_M_lines_171 : decode b_M_lines 171 = .ok (.aload_n 0, 1) := by decide +kernel
theorem d_M_lines_172 : decode b_M_lines 172 = .ok (.aload_n 0, 1) := by decide +kernel
theorem d_M_lines_173 : decode b_M_lines 173 = .ok (.getfield 164, 3) := by decide +kernel
theorem d_M_lines_176 : decode b_M_lines 176 = .ok (.invokevirtual 240, 3) := by decide +kernel
theorem d_M_lines_179 : decode b_M_lines 179 = .ok (.istore_n 1, 1) := by decide +kernel
theorem d_M_lines_180 : decode b_M_lines 180 = .ok (.iload_n 1, 1) := by decide +kernel
theorem d_M_lines_181 : decode b_M_lines 181 = .ok (.ifCond .ne 5, 3) := by decide +kernel
theorem d_M_lines_184 : decode b_M_lines 184 = .ok (.iconst 5, 1) := by decide +kernel
theorem d_M_lines_185 : decode b_M_lines 185 = .ok (.ireturn, 1) := by decide +kernel
theorem d_M_lines_186 : decode b_M_lines 186 = .ok (.iconst 0, 1) := by decide +kernel
theorem d_M_lines_187 : decode b_M_lines 187 = .ok (.istore_n 2, 1) := by decide +kernel
theorem d_M_lines_188 : decode b_M_lines 188 = .ok (.iload_n 2, 1) := by decide +kernel
theorem d_M_lines_189 : decode b_M_lines 189 = .ok (.iload_n 1, 1) := by decide +kernel
theorem d_M_lines_190 : decode b_M_lines 190 = .ok (.if_icmp .ge 28, 3) := by decide +kernel
theorem d_M_lines_193 : decode b_M_lines 193 = .ok (.aload_n 0, 1) := by decide +kernel
theorem d_M_lines_194 : decode b_M_lines 194 = .ok (.aload_n 0, 1) := by decide +kernel
theorem d_M_lines_195 : decode b_M_lines 195 = .ok (.iconst 0, 1) := by decide +kernel
theorem d_M_lines_196 : decode b_M_lines 196 = .ok (.invokevirtual 185, 3) := by decide +kernel
theorem d_M_lines_199 : decode b_M_lines 199 = .ok (.invokevirtual 226, 3) := by decide +kernel
theorem d_M_lines_202 : decode b_M_lines 202 = .ok (.aload_n 0, 1) := by decide +kernel
theorem d_M_lines_203 : decode b_M_lines 203 = .ok (.aload_n 0, 1) := by decide +kernel
theorem d_M_lines_204 : decode b_M_lines 204 = .ok (.getfield 164, 3) := by decide +kernel
theorem d_M_lines_207 : decode b_M_lines 207 = .ok (.iconst 1, 1) := by decide +kernel
theorem d_M_lines_208 : decode b_M_lines 208 = .ok (.iadd, 1) := by decide +kernel
theorem d_M_lines_209 : decode b_M_lines 209 = .ok (.putfield 164, 3) := by decide +kernel
theorem d_M_lines_212 : decode b_M_lines 212 = .ok (.iinc 2 1, 3) := by decide +kernel
theorem d_M_lines_215 : decode b_M_lines 215 = .ok (.goto (-27), 3) := by decide +kernel
theorem d_M_lines_218 : decode b_M_lines 218 = .ok (.goto (-141), 3) := by decide +kernel
theorem d_M_lines_221 : decode b_M_lines 221 = .ok (.aload_n 0, 1) := by decide +kernel
theorem d_M_lines_222 : decode b_M_lines 222 = .ok (.aload_n 0, 1) := by decide +kernel
theorem d_M_lines_223 : decode b_M_lines 223 = .ok (.getfield 164, 3) := by decide +kernel
theorem d_M_lines_226 : decode b_M_lines 226 = .ok (.iconst 1, 1) := by decide +kernel
theorem d_M_lines_227 : decode b_M_lines 227 = .ok (.iadd, 1) := by decide +kernel
theorem d_M_lines_228 : decode b_M_lines 228 = .ok (.aload_n 0, 1) := by decide +kernel
theorem d_M_lines_229 : decode b_M_lines 229 = .ok (.aload_n 0, 1) := by decide +kernel
theorem d_M_lines_230 : decode b_M_lines 230 = .ok (.getfield 164, 3) := by decide +kernel
theorem d_M_lines_233 : decode b_M_lines 233 = .ok (.iconst 1, 1) := by decide +kernel
theorem d_M_lines_234 : decode b_M_lines 234 = .ok (.iadd, 1) := by decide +kernel
theorem d_M_lines_235 : decode b_M_lines 235 = .ok (.invokevirtual 240, 3) := by decide +kernel
theorem d_M_lines_238 : decode b_M_lines 238 = .ok (.iadd, 1) := by decide +kernel
theorem d_M_lines_239 : decode b_M_lines 239 = .ok (.putfield 164, 3) := by decide +kernel
theorem d_M_lines_242 : decode b_M_lines 242 = .ok (.iconst 4, 1) := by decide +kernel
theorem d_M_lines_243 : decode b_M_lines 243 = .ok (.ireturn, 1) := by decide +kernel
theorem d_M_list_0 : decode b_M_list 0 = .ok (.aload_n 0, 1) := by decide +kernel
theorem d_M_list_1 : decode b_M_list 1 = .ok (.bipush 91, 2) := by decide +kernel
theorem d_M_list_3 : decode b_M_list 3 = .ok (.invokevirtual 249, 3) := by decide +kernel
theorem d_M_list_6 : decode b_M_list 6 = .ok (.istore_n 2, 1) := by decide +kernel
theorem d_M_list_7 : decode b_M_list 7 = .ok (.iload_n 2, 1) := by decide +kernel
theorem d_M_list_8 : decode b_M_list 8 = .ok (.ifCond .eq 7, 3) := by decide +kernel
theorem d_M_list_11 : decode b_M_list 11 = .ok (.aload_n 0, 1) := by decide +kernel
theorem d_M_list_12 : decode b_M_list 12 = .ok (.invokevirtual 252, 3) := by decide +kernel
theorem d_M_list_15 : decode b_M_list 15 = .ok (.iconst 0, 1) := by decide +kernel
theorem d_M_list_16 : decode b_M_list 16 = .ok (.istore_n 3, 1) := by decide +kernel
theorem d_M_list_17 : decode b_M_list 17 = .ok (.iconst 1, 1) := by decide +kernel
theorem d_M_list_18 : decode b_M_list 18 = .ok (.istore 4, 2) := by decide +kernel
theorem d_M_list_20 : decode b_M_list 20 = .ok (.iload 4, 2) := by decide +kernel
theorem d_M_list_22 : decode b_M_list 22 = .ok (.ifCond .eq 84, 3) := by decide +kernel
theorem d_M_list_25 : decode b_M_list 25 = .ok (.aload_n 0, 1) := by decide +kernel
theorem d_M_list_26 : decode b_M_list 26 = .ok (.getfield 154, 3) := by decide +kernel
theorem d_M_list_29 : decode b_M_list 29 = .ok (.ifCond .ge 77, 3) := by decide +kernel
theorem d_M_list_32 : decode b_M_list 32 = .ok (.iload_n 2, 1) := by decide +kernel
theorem d_M_list_33 : decode b_M_list 33 = .ok (.ifCond .eq 21, 3) := by decide +kernel
theorem d_M_list_36 : decode b_M_list 36 = .ok (.aload_n 0, 1) := by decide +kernel
theorem d_M_list_37 : decode b_M_list 37 = .ok (.iconst 4, 1) := by decide +kernel
theorem d_M_list_38 : decode b_M_list 38 = .ok (.invokevirtual 246, 3) := by decide +kernel
theorem d_M_list_41 : decode b_M_list 41 = .ok (.ifCond .eq 13, 3) := by decide +kernel
theorem d_M_list_44 : decode b_M_list 44 = .ok (.iload_n 3, 1) := by decide +kernel
theorem d_M_list_45 : decode b_M_list 45 = .ok (.bipush 10, 2) := by decide +kernel
theorem d_M_list_47 : decode b_M_list 47 = .ok (.if_icmp .ne 7, 3) := by decide +kernel
theorem d_M_list_50 : decode b_M_list 50 = .ok (.aload_n 0, 1) := by decide +kernel
theorem d_M_list_51 : decode b_M_list 51 = .ok (.invokevirtual 202, 3) := by decide +kernel
theorem d_M_list_54 : decode b_M_list 54 = .ok (.aload_n 0, 1) := by decide +kernel
theorem d_M_list_55 : decode b_M_list 55 = .ok (.invokevirtual 267, 3) := by decide +kernel
theorem d_M_list_58 : decode b_M_list 58 = .ok (.iload_n 1, 1) := by decide +kernel
theorem d_M_list_59 : decode b_M_list 59 = .ok (.ifCond .eq 7, 3) := by decide +kernel
theorem d_M_list_62 : decode b_M_list 62 = .ok (.aload_n 0, 1) := by decide +kernel
theorem d_M_list_63 : decode b_M_list 63 = .ok (.invokevirtual 270, 3) := by decide +kernel
theorem d_M_list_66 : decode b_M_list 66 = .ok (.aload_n 0, 1) := by decide +kernel
theorem d_M_list_67 : decode b_M_list 67 = .ok (.invokevirtual 252, 3) := by decide +kernel
theorem d_M_list_70 : decode b_M_list 70 = .ok (.iload_n 3, 1) := by decide +kernel
theorem d_M_list_71 : decode b_M_list 71 = .ok (.iconst 1, 1) := by decide +kernel
theorem d_M_list_72 : decode b_M_list 72 = .ok (.iadd, 1) := by decide +kernel
theorem d_M_list_73 : decode b_M_list 73 = .ok (.istore_n 3, 1) := by decide +kernel
theorem d_M_list_74 : decode b_M_list 74 = .ok (.iload_n 2, 1) := by decide +kernel
theorem d_M_list_75 : decode b_M_list 75 = .ok (.ifCond .eq 16, 3) := by decide +kernel
theorem d_M_list_78 : decode b_M_list 78 = .ok (.aload_n 0, 1) := by decide +kernel
theorem d_M_list_79 : decode b_M_list 79 = .ok (.bipush 44, 2) := by decide +kernel
theorem d_M_list_81 : decode b_M_list 81 = .ok (.invokevirtual 249, 3) := by decide +kernel
theorem d_M_list_84 : decode b_M_list 84 = .ok (.ifCond .eq 7, 3) := by decide +kernel
theorem d_M_list_87 : decode b_M_list 87 = .ok (.iconst 1, 1) := by decide +kernel
theorem d_M_list_88 : decode b_M_list 88 = .ok (.goto 4, 3) := by decide +kernel
theorem d_M_list_91 : decode b_M_list 91 = .ok (.iconst 0, 1) := by decide +kernel
theorem d_M_list_92 : decode b_M_list 92 = .ok (.istore 4, 2) := by decide +kernel
theorem d_M_list_94 : decode b_M_list 94 = .ok (.iload 4, 2) := by decide +kernel
theorem d_M_list_96 : decode b_M_list 96 = .ok (.ifCond .eq (-76), 3) := by decide +kernel
theorem d_M_list_99 : decode b_M_list 99 = .ok (.aload_n 0, 1) := by decide +kernel
theorem d_M_list_100 : decode b_M_list 100 = .ok (.invokevirtual 252, 3) := by decide +kernel
theorem d_M_list_103 : decode b_M_list 103 = .ok (.goto (-83), 3) := by decide +kernel
theorem d_M_list_106 : decode b_M_list 106 = .ok (.iload_n 2, 1) := by decide +kernel
theorem d_M_list_107 : decode b_M_list 107 = .ok (.ifCond .eq 9, 3) := by decide +kernel
theorem d_M_list_110 : decode b_M_list 110 = .ok (.aload_n 0, 1) := by decide +kernel
theorem d_M_list_111 : decode b_M_list 111 = .ok (.bipush 93, 2) := by decide +kernel
theorem d_M_list_113 : decode b_M_list 113 = .ok (.invokevirtual 273, 3) := by decide +kernel
theorem d_M_list_116 : decode b_M_list 116 = .ok (.return_, 1) := by decide +kernel
theorem d_M_low_0 : decode b_M_low 0 = .ok (.iload_n 0, 1) := by decide +kernel
theorem d_M_low_1 : decode b_M_low 1 = .ok (.bipush 65, 2) := by decide +kernel
theorem d_M_low_3 : decode b_M_low 3 = .ok (.if_icmp .lt 16, 3) := by decide +kernel
theorem d_M_low_6 : decode b_M_low 6 = .ok (.iload_n 0, 1) := by decide +kernel
theorem d_M_low_7 : decode b_M_low 7 = .ok (.bipush 90, 2) := by decide +kernel
theorem d_M_low_9 : decode b_M_low 9 = .ok (.if_icmp .gt 10, 3) := by decide +kernel
theorem d_M_low_12 : decode b_M_low 12 = .ok (.iload_n 0, 1) := by decide +kernel
theorem d_M_low_13 : decode b_M_low 13 = .ok (.bipush 32, 2) := by decide +kernel
theorem d_M_low_15 : decode b_M_low 15 = .ok (.iadd, 1) := by decide +kernel
theorem d_M_low_16 : decode b_M_low 16 = .ok (.goto 4, 3) := by decide +kernel
theorem d_M_low_19 : decode b_M_low 19 = .ok (.iload_n 0, 1) := by decide +kernel
theorem d_M_low_20 : decode b_M_low 20 = .ok (.ireturn, 1) := by decide +kernel
theorem d_M_needs_0 : decode b_M_needs 0 = .ok (.aload_n 0, 1) := by decide +kernel
theorem d_M_needs_1 : decode b_M_needs 1 = .ok (.getfield 255, 3) := by decide +kernel
theorem d_M_needs_4 : decode b_M_needs 4 = .ok (.iload_n 1, 1) := by decide +kernel
theorem d_M_needs_5 : decode b_M_needs 5 = .ok (.iand, 1) := by decide +kernel
theorem d_M_needs_6 : decode b_M_needs 6 = .ok (.ifCond .ne 7, 3) := by decide +kernel
theorem d_M_needs_9 : decode b_M_needs 9 = .ok (.aload_n 0, 1) := by decide +kernel
theorem d_M_needs_10 : decode b_M_needs 10 = .ok (.invokevirtual 202, 3) := by decide +kernel
theorem d_M_needs_13 : decode b_M_needs 13 = .ok (.return_, 1) := by decide +kernel
theorem d_M_next_0 : decode b_M_next 0 = .ok (.aload_n 0, 1) := by decide +kernel
theorem d_M_next_1 : decode b_M_next 1 = .ok (.getfield 154, 3) := by decide +kernel
theorem d_M_next_4 : decode b_M_next 4 = .ok (.ifCond .lt 4, 3) := by decide +kernel
theorem d_M_next_7 : decode b_M_next 7 = .ok (.return_, 1) := by decide +kernel
theorem d_M_next_8 : decode b_M_next 8 = .ok (.aload_n 0, 1) := by decide +kernel
theorem d_M_next_9 : decode b_M_next 9 = .ok (.invokevirtual 188, 3) := by decide +kernel
theorem d_M_next_12 : decode b_M_next 12 = .ok (.istore_n 1, 1) := by decide +kernel
theorem d_M_next_13 : decode b_M_next 13 = .ok (.aload_n 0, 1) := by decide +kernel
theorem d_M_next_14 : decode b_M_next 14 = .ok (.aload_n 0, 1) := by decide +kernel
theorem d_M_next_15 : decode b_M_next 15 = .ok (.getfield 164, 3) := by decide +kernel
theorem d_M_next_18 : decode b_M_next 18 = .ok (.putfield 192, 3) := by decide +kernel
theorem d_M_next_21 : decode b_M_next 21 = .ok (.aload_n 0, 1) := by decide +kernel
theorem d_M_next_22 : decode b_M_next 22 = .ok (.iload_n 1, 1) := by decide +kernel
theorem d_M_next_23 : decode b_M_next 23 = .ok (.ifCond .eq 10, 3) := by decide +kernel
theorem d_M_next_26 : decode b_M_next 26 = .ok (.aload_n 0, 1) := by decide +kernel
theorem d_M_next_27 : decode b_M_next 27 = .ok (.invokevirtual 195, 3) := by decide +kernel
theorem d_M_next_30 : decode b_M_next 30 = .ok (.goto 4, 3) := by decide +kernel
theorem d_M_next_33 : decode b_M_next 33 = .ok (.iconst 5, 1) := by decide +kernel
theorem d_M_next_34 : decode b_M_next 34 = .ok (.putfield 199, 3) := by decide +kernel
theorem d_M_next_37 : decode b_M_next 37 = .ok (.aload_n 0, 1) := by decide +kernel
theorem d_M_next_38 : decode b_M_next 38 = .ok (.getfield 199, 3) := by decide +kernel
theorem d_M_next_41 : decode b_M_next 41 = .ok (.iconst 5, 1) := by decide +kernel
theorem d_M_next_42 : decode b_M_next 42 = .ok (.if_icmp .ne 7, 3) := by decide +kernel
theorem d_M_next_45 : decode b_M_next 45 = .ok (.aload_n 0, 1) := by decide +kernel
theorem d_M_next_46 : decode b_M_next 46 = .ok (.invokevirtual 202, 3) := by decide +kernel
theorem d_M_next_49 : decode b_M_next 49 = .ok (.return_, 1) := by decide +kernel
theorem d_M_number_0 : decode b_M_number 0 = .ok (.aload_n 0, 1) := by decide +kernel
theorem d_M_number_1 : decode b_M_number 1 = .ok (.iconst 3, 1) := by decide +kernel
theorem d_M_number_2 : decode b_M_number 2 = .ok (.invokevirtual 246, 3) := by decide +kernel
theorem d_M_number_5 : decode b_M_number 5 = .ok (.ifCond .ne 7, 3) := by decide +kernel
theorem d_M_number_8 : decode b_M_number 8 = .ok (.aload_n 0, 1) := by decide +kernel
theorem d_M_number_9 : decode b_M_number 9 = .ok (.invokevirtual 202, 3) := by decide +kernel
theorem d_M_number_12 : decode b_M_number 12 = .ok (.aload_n 0, 1) := by decide +kernel
theorem d_M_number_13 : decode b_M_number 13 = .ok (.invokevirtual 252, 3) := by decide +kernel
theorem d_M_number_16 : decode b_M_number 16 = .ok (.return_, 1) := by decide +kernel
theorem d_M_one_0 : decode b_M_one 0 = .ok (.aload_n 0, 1) := by decide +kernel
theorem d_M_one_1 : decode b_M_one 1 = .ok (.invokevirtual 267, 3) := by decide +kernel
theorem d_M_one_4 : decode b_M_one 4 = .ok (.aload_n 0, 1) := by decide +kernel
theorem d_M_one_5 : decode b_M_one 5 = .ok (.iload_n 1, 1) := by decide +kernel
theorem d_M_one_6 : decode b_M_one 6 = .ok (.iload_n 2, 1) := by decide +kernel
theorem d_M_one_7 : decode b_M_one 7 = .ok (.invokevirtual 181, 3) := by decide +kernel
theorem d_M_one_10 : decode b_M_one 10 = .ok (.istore_n 3, 1) := by decide +kernel
theorem d_M_one_11 : decode b_M_one 11 = .ok (.iload_n 3, 1) := by decide +kernel
theorem d_M_one_12 : decode b_M_one 12 = .ok (.ifCond .ge 7, 3) := by decide +kernel
theorem d_M_one_15 : decode b_M_one 15 = .ok (.aload_n 0, 1) := by decide +kernel
theorem d_M_one_16 : decode b_M_one 16 = .ok (.invokevirtual 202, 3) := by decide +kernel
theorem d_M_one_19 : decode b_M_one 19 = .ok (.iload_n 3, 1) := by decide +kernel
theorem d_M_one_20 : decode b_M_one 20 = .ok (.bipush 50, 2) := by decide +kernel
theorem d_M_one_22 : decode b_M_one 22 = .ok (.if_icmp .ne 10, 3) := by decide +kernel
theorem d_M_one_25 : decode b_M_one 25 = .ok (.aload_n 0, 1) := by decide +kernel
theorem d_M_one_26 : decode b_M_one 26 = .ok (.sipush 128, 3) := by decide +kernel
theorem d_M_one_29 : decode b_M_one 29 = .ok (.invokevirtual 258, 3) := by decide +kernel
theorem d_M_one_32 : decode b_M_one 32 = .ok (.aload_n 0, 1) := by decide +kernel
theorem d_M_one_33 : decode b_M_one 33 = .ok (.invokevirtual 252, 3) := by decide +kernel
theorem d_M_one_36 : decode b_M_one 36 = .ok (.return_, 1) := by decide +kernel
theorem d_M_peek_0 : decode b_M_peek 0 = .ok (.aload_n 0, 1) := by decide +kernel
theorem d_M_peek_1 : decode b_M_peek 1 = .ok (.getfield 164, 3) := by decide +kernel
theorem d_M_peek_4 : decode b_M_peek 4 = .ok (.iload_n 1, 1) := by decide +kernel
theorem d_M_peek_5 : decode b_M_peek 5 = .ok (.iadd, 1) := by decide +kernel
theorem d_M_peek_6 : decode b_M_peek 6 = .ok (.aload_n 0, 1) := by decide +kernel
theorem d_M_peek_7 : decode b_M_peek 7 = .ok (.getfield 161, 3) := by decide +kernel
theorem d_M_peek_10 : decode b_M_peek 10 = .ok (.if_icmp .ge 17, 3) := by decide +kernel
theorem d_M_peek_13 : decode b_M_peek 13 = .ok (.aload_n 0, 1) := by decide +kernel
theorem d_M_peek_14 : decode b_M_peek 14 = .ok (.getfield 145, 3) := by decide +kernel
theorem d_M_peek_17 : decode b_M_peek 17 = .ok (.aload_n 0, 1) := by decide +kernel
theorem d_M_peek_18 : decode b_M_peek 18 = .ok (.getfield 164, 3) := by decide +kernel
theorem d_M_peek_21 : decode b_M_peek 21 = .ok (.iload_n 1, 1) := by decide +kernel
theorem d_M_peek_22 : decode b_M_peek 22 = .ok (.iadd, 1) := by decide +kernel
theorem d_M_peek_23 : decode b_M_peek 23 = .ok (.iaload, 1) := by decide +kernel
theorem d_M_peek_24 : decode b_M_peek 24 = .ok (.goto 4, 3) := by decide +kernel
theorem d_M_peek_27 : decode b_M_peek 27 = .ok (.iconst (-1), 1) := by decide +kernel
theorem d_M_peek_28 : decode b_M_peek 28 = .ok (.ireturn, 1) := by decide +kernel
theorem d_M_place_0 : decode b_M_place 0 = .ok (.aload_n 0, 1) := by decide +kernel
theorem d_M_place_1 : decode b_M_place 1 = .ok (.getfield 154, 3) := by decide +kernel
theorem d_M_place_4 : decode b_M_place 4 = .ok (.ireturn, 1) := by decide +kernel
theorem d_M_push_0 : decode b_M_push 0 = .ok (.aload_n 0, 1) := by decide +kernel
theorem d_M_push_1 : decode b_M_push 1 = .ok (.getfield 154, 3) := by decide +kernel
theorem d_M_push_4 : decode b_M_push 4 = .ok (.ifCond .lt 4, 3) := by decide +kernel
theorem d_M_push_7 : decode b_M_push 7 = .ok (.return_, 1) := by decide +kernel
theorem d_M_push_8 : decode b_M_push 8 = .ok (.aload_n 0, 1) := by decide +kernel
theorem d_M_push_9 : decode b_M_push 9 = .ok (.getfield 158, 3) := by decide +kernel
theorem d_M_push_12 : decode b_M_push 12 = .ok (.aload_n 0, 1) := by decide +kernel
theorem d_M_push_13 : decode b_M_push 13 = .ok (.getfield 243, 3) := by decide +kernel
theorem d_M_push_16 : decode b_M_push 16 = .ok (.iload_n 1, 1) := by decide +kernel
theorem d_M_push_17 : decode b_M_push 17 = .ok (.iastore, 1) := by decide +kernel
theorem d_M_push_18 : decode b_M_push 18 = .ok (.aload_n 0, 1) := by decide +kernel
theorem d_M_push_19 : decode b_M_push 19 = .ok (.aload_n 0, 1) := by decide +kernel
theorem d_M_push_20 : decode b_M_push 20 = .ok (.getfield 243, 3) := by decide +kernel
theorem d_M_push_23 : decode b_M_push 23 = .ok (.iconst 1, 1) := by decide +kernel
theorem d_M_push_24 : decode b_M_push 24 = .ok (.iadd, 1) := by decide +kernel
theorem d_M_push_25 : decode b_M_push 25 = .ok (.putfield 243, 3) := by decide +kernel
theorem d_M_push_28 : decode b_M_push 28 = .ok (.return_, 1) := by decide +kernel
theorem d_M_put_0 : decode b_M_put 0 = .ok (.iload_n 3, 1) := by decide +kernel
theorem d_M_put_1 : decode b_M_put 1 = .ok (.iconst 1, 1) := by decide +kernel
theorem d_M_put_2 : decode b_M_put 2 = .ok (.if_icmp .lt 21, 3) := by decide +kernel
theorem d_M_put_5 : decode b_M_put 5 = .ok (.iload_n 3, 1) := by decide +kernel
theorem d_M_put_6 : decode b_M_put 6 = .ok (.bipush 8, 2) := by decide +kernel
theorem d_M_put_8 : decode b_M_put 8 = .ok (.if_icmp .gt 15, 3) := by decide +kernel
theorem d_M_put_11 : decode b_M_put 11 = .ok (.aload_n 0, 1) := by decide +kernel
theorem d_M_put_12 : decode b_M_put 12 = .ok (.getfield 161, 3) := by decide +kernel
theorem d_M_put_15 : decode b_M_put 15 = .ok (.iload_n 3, 1) := by decide +kernel
theorem d_M_put_16 : decode b_M_put 16 = .ok (.iadd, 1) := by decide +kernel
theorem d_M_put_17 : decode b_M_put 17 = .ok (.sipush 400, 3) := by decide +kernel
theorem d_M_put_20 : decode b_M_put 20 = .ok (.if_icmp .le 5, 3) := by decide +kernel
theorem d_M_put_23 : decode b_M_put 23 = .ok (.iconst 0, 1) := by decide +kernel
theorem d_M_put_24 : decode b_M_put 24 = .ok (.ireturn, 1) := by decide +kernel
theorem d_M_put_25 : decode b_M_put 25 = .ok (.iload_n 3, 1) := by decide +kernel
theorem d_M_put_26 : decode b_M_put 26 = .ok (.iconst 1, 1) := by decide +kernel
theorem d_M_put_27 : decode b_M_put 27 = .ok (.isub, 1) := by decide +kernel
theorem d_M_put_28 : decode b_M_put 28 = .ok (.istore 4, 2) := by decide +kernel
theorem d_M_put_30 : decode b_M_put 30 = .ok (.iload 4, 2) := by decide +kernel
theorem d_M_put_32 : decode b_M_put 32 = .ok (.ifCond .lt 40, 3) := by decide +kernel
theorem d_M_put_35 : decode b_M_put 35 = .ok (.aload_n 0, 1) := by decide +kernel
theorem d_M_put_36 : decode b_M_put 36 = .ok (.getfield 145, 3) := by decide +kernel
theorem d_M_put_39 : decode b_M_put 39 = .ok (.aload_n 0, 1) := by decide +kernel
theorem d_M_put_40 : decode b_M_put 40 = .ok (.getfield 161, 3) := by decide +kernel
theorem d_M_put_43 : decode b_M_put 43 = .ok (.lload_n 1, 1) := by decide +kernel
theorem d_M_put_44 : decode b_M_put 44 = .ok (.bipush 8, 2) := by decide +kernel
theorem d_M_put_46 : decode b_M_put 46 = .ok (.iload 4, 2) := by decide +kernel
theorem d_M_put_48 : decode b_M_put 48 = .ok (.imul, 1) := by decide +kernel
theorem d_M_put_49 : decode b_M_put 49 = .ok (.lshr, 1) := by decide +kernel
theorem d_M_put_50 : decode b_M_put 50 = .ok (.l2i, 1) := by decide +kernel
theorem d_M_put_51 : decode b_M_put 51 = .ok (.sipush 255, 3) := by decide +kernel
theorem d_M_put_54 : decode b_M_put 54 = .ok (.iand, 1) := by decide +kernel
theorem d_M_put_55 : decode b_M_put 55 = .ok (.iastore, 1) := by decide +kernel
theorem d_M_put_56 : decode b_M_put 56 = .ok (.aload_n 0, 1) := by decide +kernel
theorem d_M_put_57 : decode b_M_put 57 = .ok (.aload_n 0, 1) := by decide +kernel
theorem d_M_put_58 : decode b_M_put 58 = .ok (.getfield 161, 3) := by decide +kernel
theorem d_M_put_61 : decode b_M_put 61 = .ok (.iconst 1, 1) := by decide +kernel
theorem d_M_put_62 : decode b_M_put 62 = .ok (.iadd, 1) := by decide +kernel
theorem d_M_put_63 : decode b_M_put 63 = .ok (.putfield 161, 3) := by decide +kernel
theorem d_M_put_66 : decode b_M_put 66 = .ok (.iinc 4 (-1), 3) := by decide +kernel
theorem d_M_put_69 : decode b_M_put 69 = .ok (.goto (-39), 3) := by decide +kernel
theorem d_M_put_72 : decode b_M_put 72 = .ok (.iconst 1, 1) := by decide +kernel
theorem d_M_put_73 : decode b_M_put 73 = .ok (.ireturn, 1) := by decide +kernel
theorem d_M_quoted_0 : decode b_M_quoted 0 = .ok (.aload_n 0, 1) := by decide +kernel
theorem d_M_quoted_1 : decode b_M_quoted 1 = .ok (.aload_n 0, 1) := by decide +kernel
theorem d_M_quoted_2 : decode b_M_quoted 2 = .ok (.getfield 164, 3) := by decide +kernel
theorem d_M_quoted_5 : decode b_M_quoted 5 = .ok (.iconst 1, 1) := by decide +kernel
theorem d_M_quoted_6 : decode b_M_quoted 6 = .ok (.iadd, 1) := by decide +kernel
theorem d_M_quoted_7 : decode b_M_quoted 7 = .ok (.putfield 164, 3) := by decide +kernel
theorem d_M_quoted_10 : decode b_M_quoted 10 = .ok (.aload_n 0, 1) := by decide +kernel
theorem d_M_quoted_11 : decode b_M_quoted 11 = .ok (.iconst 0, 1) := by decide +kernel
theorem d_M_quoted_12 : decode b_M_quoted 12 = .ok (.invokevirtual 185, 3) := by decide +kernel
theorem d_M_quoted_15 : decode b_M_quoted 15 = .ok (.bipush 34, 2) := by decide +kernel
theorem d_M_quoted_17 : decode b_M_quoted 17 = .ok (.if_icmp .eq 65, 3) := by decide +kernel
theorem d_M_quoted_20 : decode b_M_quoted 20 = .ok (.aload_n 0, 1) := by decide +kernel
theorem d_M_quoted_21 : decode b_M_quoted 21 = .ok (.iconst 0, 1) := by decide +kernel
theorem d_M_quoted_22 : decode b_M_quoted 22 = .ok (.invokevirtual 185, 3) := by decide +kernel
theorem d_M_quoted_25 : decode b_M_quoted 25 = .ok (.bipush 92, 2) := by decide +kernel
theorem d_M_quoted_27 : decode b_M_quoted 27 = .ok (.if_icmp .ne 13, 3) := by decide +kernel
theorem d_M_quoted_30 : decode b_M_quoted 30 = .ok (.aload_n 0, 1) := by decide +kernel
theorem d_M_quoted_31 : decode b_M_quoted 31 = .ok (.aload_n 0, 1) := by decide +kernel
theorem d_M_quoted_32 : decode b_M_quoted 32 = .ok (.getfield 164, 3) := by decide +kernel
theorem d_M_quoted_35 : decode b_M_quoted 35 = .ok (.iconst 1, 1) := by decide +kernel
theorem d_M_quoted_36 : decode b_M_quoted 36 = .ok (.iadd, 1) := by decide +kernel
theorem d_M_quoted_37 : decode b_M_quoted 37 = .ok (.putfield 164, 3) := by decide +kernel
theorem d_M_quoted_40 : decode b_M_quoted 40 = .ok (.aload_n 0, 1) := by decide +kernel
theorem d_M_quoted_41 : decode b_M_quoted 41 = .ok (.iconst 0, 1) := by decide +kernel
theorem d_M_quoted_42 : decode b_M_quoted 42 = .ok (.invokevirtual 185, 3) := by decide +kernel
theorem d_M_quoted_45 : decode b_M_quoted 45 = .ok (.ifCond .lt 13, 3) := by decide +kernel
theorem d_M_quoted_48 : decode b_M_quoted 48 = .ok (.aload_n 0, 1) := by decide +kernel
theorem d_M_quoted_49 : decode b_M_quoted 49 = .ok (.getfield 174, 3) := by decide +kernel
theorem d_M_quoted_52 : decode b_M_quoted 52 = .ok (.sipush 200, 3) := by decide +kernel
theorem d_M_quoted_55 : decode b_M_quoted 55 = .ok (.if_icmp .ne 5, 3) := by decide +kernel
theorem d_M_quoted_58 : decode b_M_quoted 58 = .ok (.iconst 5, 1) := by decide +kernel
theorem d_M_quoted_59 : decode b_M_quoted 59 = .ok (.ireturn, 1) := by decide +kernel
theorem d_M_quoted_60 : decode b_M_quoted 60 = .ok (.aload_n 0, 1) := by decide +kernel
theorem d_M_quoted_61 : decode b_M_quoted 61 = .ok (.aload_n 0, 1) := by decide +kernel
theorem d_M_quoted_62 : decode b_M_quoted 62 = .ok (.iconst 0, 1) := by decide +kernel
theorem d_M_quoted_63 : decode b_M_quoted 63 = .ok (.invokevirtual 185, 3) := by decide +kernel
theorem d_M_quoted_66 : decode b_M_quoted 66 = .ok (.invokevirtual 226, 3) := by decide +kernel
theorem d_M_quoted_69 : decode b_M_quoted 69 = .ok (.aload_n 0, 1) := by decide +kernel
theorem d_M_quoted_70 : decode b_M_quoted 70 = .ok (.aload_n 0, 1) := by decide +kernel
theorem d_M_quoted_71 : decode b_M_quoted 71 = .ok (.getfield 164, 3) := by decide +kernel
theorem d_M_quoted_74 : decode b_M_quoted 74 = .ok (.iconst 1, 1) := by decide +kernel
theorem d_M_quoted_75 : decode b_M_quoted 75 = .ok (.iadd, 1) := by decide +kernel
theorem d_M_quoted_76 : decode b_M_quoted 76 = .ok (.putfield 164, 3) := by decide +kernel
theorem d_M_quoted_79 : decode b_M_quoted 79 = .ok (.goto (-69), 3) := by decide +kernel
theorem d_M_quoted_82 : decode b_M_quoted 82 = .ok (.aload_n 0, 1) := by decide +kernel
theorem d_M_quoted_83 : decode b_M_quoted 83 = .ok (.aload_n 0, 1) := by decide +kernel
theorem d_M_quoted_84 : decode b_M_quoted 84 = .ok (.getfield 164, 3) := by decide +kernel
theorem d_M_quoted_87 : decode b_M_quoted 87 = .ok (.iconst 1, 1) := by decide +kernel
theorem d_M_quoted_88 : decode b_M_quoted 88 = .ok (.iadd, 1) := by decide +kernel
theorem d_M_quoted_89 : decode b_M_quoted 89 = .ok (.putfield 164, 3) := by decide +kernel
theorem d_M_quoted_92 : decode b_M_quoted 92 = .ok (.iconst 4, 1) := by decide +kernel
theorem d_M_quoted_93 : decode b_M_quoted 93 = .ok (.ireturn, 1) := by decide +kernel
theorem d_M_redirect_0 : decode b_M_redirect 0 = .ok (.aload_n 0, 1) := by decide +kernel
theorem d_M_redirect_1 : decode b_M_redirect 1 = .ok (.invokevirtual 267, 3) := by decide +kernel
theorem d_M_redirect_4 : decode b_M_redirect 4 = .ok (.iconst 0, 1) := by decide +kernel
theorem d_M_redirect_5 : decode b_M_redirect 5 = .ok (.istore_n 1, 1) := by decide +kernel
theorem d_M_redirect_6 : decode b_M_redirect 6 = .ok (.iload_n 1, 1) := by decide +kernel
theorem d_M_redirect_7 : decode b_M_redirect 7 = .ok (.aload_n 0, 1) := by decide +kernel
theorem d_M_redirect_8 : decode b_M_redirect 8 = .ok (.getfield 174, 3) := by decide +kernel
theorem d_M_redirect_11 : decode b_M_redirect 11 = .ok (.if_icmp .ge 21, 3) := by decide +kernel
theorem d_M_redirect_14 : decode b_M_redirect 14 = .ok (.aload_n 0, 1) := by decide +kernel
theorem d_M_redirect_15 : decode b_M_redirect 15 = .ok (.getfield 151, 3) := by decide +kernel
theorem d_M_redirect_18 : decode b_M_redirect 18 = .ok (.iload_n 1, 1) := by decide +kernel
theorem d_M_redirect_19 : decode b_M_redirect 19 = .ok (.iaload, 1) := by decide +kernel
theorem d_M_redirect_20 : decode b_M_redirect 20 = .ok (.bipush 64, 2) := by decide +kernel
theorem d_M_redirect_22 : decode b_M_redirect 22 = .ok (.if_icmp .eq 10, 3) := by decide +kernel
theorem d_M_redirect_25 : decode b_M_redirect 25 = .ok (.iload_n 1, 1) := by decide +kernel
theorem d_M_redirect_26 : decode b_M_redirect 26 = .ok (.iconst 1, 1) := by decide +kernel
theorem d_M_redirect_27 : decode b_M_redirect 27 = .ok (.iadd, 1) := by decide +kernel
theorem d_M_redirect_28 : decode b_M_redirect 28 = .ok (.istore_n 1, 1) := by decide +kernel
theorem d_M_redirect_29 : decode b_M_redirect 29 = .ok (.goto (-23), 3) := by decide +kernel
theorem d_M_redirect_32 : decode b_M_redirect 32 = .ok (.iload_n 1, 1) := by decide +kernel
theorem d_M_redirect_33 : decode b_M_redirect 33 = .ok (.aload_n 0, 1) := by decide +kernel
theorem d_M_redirect_34 : decode b_M_redirect 34 = .ok (.getfield 174, 3) := by decide +kernel
theorem d_M_redirect_37 : decode b_M_redirect 37 = .ok (.if_icmp .eq 32, 3) := by decide +kernel
theorem d_M_redirect_40 : decode b_M_redirect 40 = .ok (.aload_n 0, 1) := by decide +kernel
theorem d_M_redirect_41 : decode b_M_redirect 41 = .ok (.iconst 0, 1) := by decide +kernel
theorem d_M_redirect_42 : decode b_M_redirect 42 = .ok (.iload_n 1, 1) := by decide +kernel
theorem d_M_redirect_43 : decode b_M_redirect 43 = .ok (.bipush 40, 2) := by decide +kernel
theorem d_M_redirect_45 : decode b_M_redirect 45 = .ok (.iconst 1, 1) := by decide +kernel
theorem d_M_redirect_46 : decode b_M_redirect 46 = .ok (.invokevirtual 301, 3) := by decide +kernel
theorem d_M_redirect_49 : decode b_M_redirect 49 = .ok (.ifCond .eq 20, 3) := by decide +kernel
theorem d_M_redirect_52 : decode b_M_redirect 52 = .ok (.aload_n 0, 1) := by decide +kernel
theorem d_M_redirect_53 : decode b_M_redirect 53 = .ok (.iload_n 1, 1) := by decide +kernel
theorem d_M_redirect_54 : decode b_M_redirect 54 = .ok (.iconst 1, 1) := by decide +kernel
theorem d_M_redirect_55 : decode b_M_redirect 55 = .ok (.iadd, 1) := by decide +kernel
theorem d_M_redirect_56 : decode b_M_redirect 56 = .ok (.aload_n 0, 1) := by decide +kernel
theorem d_M_redirect_57 : decode b_M_redirect 57 = .ok (.getfield 174, 3) := by decide +kernel
theorem d_M_redirect_60 : decode b_M_redirect 60 = .ok (.bipush 60, 2) := by decide +kernel
theorem d_M_redirect_62 : decode b_M_redirect 62 = .ok (.iconst 0, 1) := by decide +kernel
theorem d_M_redirect_63 : decode b_M_redirect 63 = .ok (.invokevirtual 301, 3) := by decide +kernel
theorem d_M_redirect_66 : decode b_M_redirect 66 = .ok (.ifCond .ne 7, 3) := by decide +kernel
theorem d_M_redirect_69 : decode b_M_redirect 69 = .ok (.aload_n 0, 1) := by decide +kernel
theorem d_M_redirect_70 : decode b_M_redirect 70 = .ok (.invokevirtual 202, 3) := by decide +kernel
theorem d_M_redirect_73 : decode b_M_redirect 73 = .ok (.aload_n 0, 1) := by decide +kernel
theorem d_M_redirect_74 : decode b_M_redirect 74 = .ok (.invokevirtual 252, 3) := by decide +kernel
theorem d_M_redirect_77 : decode b_M_redirect 77 = .ok (.return_, 1) := by decide +kernel
theorem d_M_require_0 : decode b_M_require 0 = .ok (.aload_n 0, 1) := by decide +kernel
theorem d_M_require_1 : decode b_M_require 1 = .ok (.getfield 154, 3) := by decide +kernel
theorem d_M_require_4 : decode b_M_require 4 = .ok (.ifCond .lt 4, 3) := by decide +kernel
theorem d_M_require_7 : decode b_M_require 7 = .ok (.return_, 1) := by decide +kernel
theorem d_M_require_8 : decode b_M_require 8 = .ok (.aload_n 0, 1) := by decide +kernel
theorem d_M_require_9 : decode b_M_require 9 = .ok (.bipush 7, 2) := by decide +kernel
theorem d_M_require_11 : decode b_M_require 11 = .ok (.invokevirtual 211, 3) := by decide +kernel
theorem d_M_require_14 : decode b_M_require 14 = .ok (.ifCond .eq 7, 3) := by decide +kernel
theorem d_M_require_17 : decode b_M_require 17 = .ok (.iconst 1, 1) := by decide +kernel
theorem d_M_require_18 : decode b_M_require 18 = .ok (.goto 101, 3) := by decide +kernel
theorem d_M_require_21 : decode b_M_require 21 = .ok (.aload_n 0, 1) := by decide +kernel
theorem d_M_require_22 : decode b_M_require 22 = .ok (.bipush 9, 2) := by decide +kernel
theorem d_M_require_24 : decode b_M_require 24 = .ok (.invokevirtual 211, 3) := by decide +kernel
theorem d_M_require_27 : decode b_M_require 27 = .ok (.ifCond .eq 7, 3) := by decide +kernel
theorem d_M_require_30 : decode b_M_require 30 = .ok (.iconst 2, 1) := by decide +kernel
theorem d_M_require_31 : decode b_M_require 31 = .ok (.goto 88, 3) := by decide +kernel
theorem d_M_require_34 : decode b_M_require 34 = .ok (.aload_n 0, 1) := by decide +kernel
theorem d_M_require_35 : decode b_M_require 35 = .ok (.bipush 16, 2) := by decide +kernel
theorem d_M_require_37 : decode b_M_require 37 = .ok (.invokevirtual 211, 3) := by decide +kernel
theorem d_M_require_40 : decode b_M_require 40 = .ok (.ifCond .eq 7, 3) := by decide +kernel
theorem d_M_require_43 : decode b_M_require 43 = .ok (.iconst 4, 1) := by decide +kernel
theorem d_M_require_44 : decode b_M_require 44 = .ok (.goto 75, 3) := by decide +kernel
theorem d_M_require_47 : decode b_M_require 47 = .ok (.aload_n 0, 1) := by decide +kernel
theorem d_M_require_48 : decode b_M_require 48 = .ok (.bipush 26, 2) := by decide +kernel
theorem d_M_require_50 : decode b_M_require 50 = .ok (.invokevirtual 211, 3) := by decide +kernel
theorem d_M_require_53 : decode b_M_require 53 = .ok (.ifCond .eq 8, 3) := by decide +kernel
theorem d_M_require_56 : decode b_M_require 56 = .ok (.bipush 8, 2) := by decide +kernel
theorem d_M_require_58 : decode b_M_require 58 = .ok (.goto 61, 3) := by decide +kernel
theorem d_M_require_61 : decode b_M_require 61 = .ok (.aload_n 0, 1) := by decide +kernel
theorem d_M_require_62 : decode b_M_require 62 = .ok (.bipush 51, 2) := by decide +kernel
theorem d_M_require_64 : decode b_M_require 64 = .ok (.invokevirtual 211, 3) := by decide +kernel
theorem d_M_require_67 : decode b_M_require 67 = .ok (.ifCond .eq 8, 3) := by decide +kernel
theorem d_M_require_70 : decode b_M_require 70 = .ok (.bipush 16, 2) := by decide +kernel
theorem d_M_require_72 : decode b_M_require 72 = .ok (.goto 47, 3) := by decide +kernel
theorem d_M_require_75 : decode b_M_require 75 = .ok (.aload_n 0, 1) := by decide +kernel
theorem d_M_require_76 : decode b_M_require 76 = .ok (.bipush 52, 2) := by decide +kernel
theorem d_M_require_78 : decode b_M_require 78 = .ok (.invokevirtual 211, 3) := by decide +kernel
theorem d_M_require_81 : decode b_M_require 81 = .ok (.ifCond .eq 8, 3) := by decide +kernel
theorem d_M_require_84 : decode b_M_require 84 = .ok (.bipush 32, 2) := by decide +kernel
theorem d_M_require_86 : decode b_M_require 86 = .ok (.goto 33, 3) := by decide +kernel
theorem d_M_require_89 : decode b_M_require 89 = .ok (.aload_n 0, 1) := by decide +kernel
theorem d_M_require_90 : decode b_M_require 90 = .ok (.bipush 13, 2) := by decide +kernel
theorem d_M_require_92 : decode b_M_require 92 = .ok (.invokevirtual 211, 3) := by decide +kernel
theorem d_M_require_95 : decode b_M_require 95 = .ok (.ifCond .eq 8, 3) := by decide +kernel
theorem d_M_require_98 : decode b_M_require 98 = .ok (.bipush 64, 2) := by decide +kernel
theorem d_M_require_100 : decode b_M_require 100 = .ok (.goto 19, 3) := by decide +kernel
theorem d_M_require_103 : decode b_M_require 103 = .ok (.aload_n 0, 1) := by decide +kernel
theorem d_M_require_104 : decode b_M_require 104 = .ok (.bipush 53, 2) := by decide +kernel
theorem d_M_require_106 : decode b_M_require 106 = .ok (.invokevirtual 211, 3) := by decide +kernel
theorem d_M_require_109 : decode b_M_require 109 = .ok (.ifCond .eq 9, 3) := by decide +kernel
theorem d_M_require_112 : decode b_M_require 112 = .ok (.sipush 128, 3) := by decide +kernel
theorem d_M_require_115 : decode b_M_require 115 = .ok (.goto 4, 3) := by decide +kernel
theorem d_M_require_118 : decode b_M_require 118 = .ok (.iconst 0, 1) := by decide +kernel
theorem d_M_require_119 : decode b_M_require 119 = .ok (.istore_n 1, 1) := by decide +kernel
theorem d_M_require_120 : decode b_M_require 120 = .ok (.iload_n 1, 1) := by decide +kernel
theorem d_M_require_121 : decode b_M_require 121 = .ok (.ifCond .ne 7, 3) := by decide +kernel
theorem d_M_require_124 : decode b_M_require 124 = .ok (.aload_n 0, 1) := by decide +kernel
theorem d_M_require_125 : decode b_M_require 125 = .ok (.invokevirtual 202, 3) := by decide +kernel
theorem d_M_require_128 : decode b_M_require 128 = .ok (.aload_n 0, 1) := by decide +kernel
theorem d_M_require_129 : decode b_M_require 129 = .ok (.aload_n 0, 1) := by decide +kernel
theorem d_M_require_130 : decode b_M_require 130 = .ok (.getfield 255, 3) := by decide +kernel
theorem d_M_require_133 : decode b_M_require 133 = .ok (.iload_n 1, 1) := by decide +kernel
theorem d_M_require_134 : decode b_M_require 134 = .ok (.ior, 1) := by decide +kernel
theorem d_M_require_135 : decode b_M_require 135 = .ok (.putfield 255, 3) := by decide +kernel
theorem d_M_require_138 : decode b_M_require 138 = .ok (.return_, 1) := by decide +kernel
theorem d_M_skip_0 : decode b_M_skip 0 = .ok (.iconst 1, 1) := by decide +kernel
theorem d_M_skip_1 : decode b_M_skip 1 = .ok (.istore_n 1, 1) := by decide +kernel
theorem d_M_skip_2 : decode b_M_skip 2 = .ok (.iload_n 1, 1) := by decide +kernel
theorem d_M_skip_3 : decode b_M_skip 3 = .ok (.ifCond .eq 174, 3) := by decide +kernel
theorem d_M_skip_6 : decode b_M_skip 6 = .ok (.aload_n 0, 1) := by decide +kernel
theorem d_M_skip_7 : decode b_M_skip 7 = .ok (.iconst 0, 1) := by decide +kernel
theorem d_M_skip_8 : decode b_M_skip 8 = .ok (.invokevirtual 185, 3) := by decide +kernel
theorem d_M_skip_11 : decode b_M_skip 11 = .ok (.istore_n 2, 1) := by decide +kernel
theorem d_M_skip_12 : decode b_M_skip 12 = .ok (.iload_n 2, 1) := by decide +kernel
theorem d_M_skip_13 : decode b_M_skip 13 = .ok (.bipush 9, 2) := by decide +kernel
theorem d_M_skip_15 : decode b_M_skip 15 = .ok (.if_icmp .eq 21, 3) := by decide +kernel
theorem d_M_skip_18 : decode b_M_skip 18 = .ok (.iload_n 2, 1) := by decide +kernel
theorem d_M_skip_19 : decode b_M_skip 19 = .ok (.bipush 10, 2) := by decide +kernel
theorem d_M_skip_21 : decode b_M_skip 21 = .ok (.if_icmp .eq 15, 3) := by decide +kernel
theorem d_M_skip_24 : decode b_M_skip 24 = .ok (.iload_n 2, 1) := by decide +kernel
theorem d_M_skip_25 : decode b_M_skip 25 = .ok (.bipush 13, 2) := by decide +kernel
theorem d_M_skip_27 : decode b_M_skip 27 = .ok (.if_icmp .eq 9, 3) := by decide +kernel
theorem d_M_skip_30 : decode b_M_skip 30 = .ok (.iload_n 2, 1) := by decide +kernel
theorem d_M_skip_31 : decode b_M_skip 31 = .ok (.bipush 32, 2) := by decide +kernel
theorem d_M_skip_33 : decode b_M_skip 33 = .ok (.if_icmp .ne 16, 3) := by decide +kernel
theorem d_M_skip_36 : decode b_M_skip 36 = .ok (.aload_n 0, 1) := by decide +kernel
theorem d_M_skip_37 : decode b_M_skip 37 = .ok (.aload_n 0, 1) := by decide +kernel
theorem d_M_skip_38 : decode b_M_skip 38 = .ok (.getfield 164, 3) := by decide +kernel
theorem d_M_skip_41 : decode b_M_skip 41 = .ok (.iconst 1, 1) := by decide +kernel
theorem d_M_skip_42 : decode b_M_skip 42 = .ok (.iadd, 1) := by decide +kernel
theorem d_M_skip_43 : decode b_M_skip 43 = .ok (.putfield 164, 3) := by decide +kernel
theorem d_M_skip_46 : decode b_M_skip 46 = .ok (.goto 128, 3) := by decide +kernel
theorem d_M_skip_49 : decode b_M_skip 49 = .ok (.iload_n 2, 1) := by decide +kernel
theorem d_M_skip_50 : decode b_M_skip 50 = .ok (.bipush 35, 2) := by decide +kernel
theorem d_M_skip_52 : decode b_M_skip 52 = .ok (.if_icmp .ne 34, 3) := by decide +kernel
theorem d_M_skip_55 : decode b_M_skip 55 = .ok (.aload_n 0, 1) := by decide +kernel
theorem d_M_skip_56 : decode b_M_skip 56 = .ok (.iconst 0, 1) := by decide +kernel
theorem d_M_skip_57 : decode b_M_skip 57 = .ok (.invokevirtual 185, 3) := by decide +kernel
theorem d_M_skip_60 : decode b_M_skip 60 = .ok (.ifCond .lt 114, 3) := by decide +kernel
theorem d_M_skip_63 : decode b_M_skip 63 = .ok (.aload_n 0, 1) := by decide +kernel
theorem d_M_skip_64 : decode b_M_skip 64 = .ok (.iconst 0, 1) := by decide +kernel
theorem d_M_skip_65 : decode b_M_skip 65 = .ok (.invokevirtual 185, 3) := by decide +kernel
theorem d_M_skip_68 : decode b_M_skip 68 = .ok (.bipush 10, 2) := by decide +kernel
theorem d_M_skip_70 : decode b_M_skip 70 = .ok (.if_icmp .eq 104, 3) := by decide +kernel
theorem d_M_skip_73 : decode b_M_skip 73 = .ok (.aload_n 0, 1) := by decide +kernel
theorem d_M_skip_74 : decode b_M_skip 74 = .ok (.aload_n 0, 1) := by decide +kernel
theorem d_M_skip_75 : decode b_M_skip 75 = .ok (.getfield 164, 3) := by decide +kernel
theorem d_M_skip_78 : decode b_M_skip 78 = .ok (.iconst 1, 1) := by decide +kernel
theorem d_M_skip_79 : decode b_M_skip 79 = .ok (.iadd, 1) := by decide +kernel
theorem d_M_skip_80 : decode b_M_skip 80 = .ok (.putfield 164, 3) := by decide +kernel
theorem d_M_skip_83 : decode b_M_skip 83 = .ok (.goto (-28), 3) := by decide +kernel
theorem d_M_skip_86 : decode b_M_skip 86 = .ok (.iload_n 2, 1) := by decide +kernel
theorem d_M_skip_87 : decode b_M_skip 87 = .ok (.bipush 47, 2) := by decide +kernel
theorem d_M_skip_89 : decode b_M_skip 89 = .ok (.if_icmp .ne 83, 3) := by decide +kernel
theorem d_M_skip_92 : decode b_M_skip 92 = .ok (.aload_n 0, 1) := by decide +kernel
theorem d_M_skip_93 : decode b_M_skip 93 = .ok (.iconst 1, 1) := by decide +kernel
theorem d_M_skip_94 : decode b_M_skip 94 = .ok (.invokevirtual 185, 3) := by decide +kernel
theorem d_M_skip_97 : decode b_M_skip 97 = .ok (.bipush 42, 2) := by decide +kernel
theorem d_M_skip_99 : decode b_M_skip 99 = .ok (.if_icmp .ne 73, 3) := by decide +kernel
theorem d_M_skip_102 : decode b_M_skip 102 = .ok (.aload_n 0, 1) := by decide +kernel
theorem d_M_skip_103 : decode b_M_skip 103 = .ok (.getfield 164, 3) := by decide +kernel
theorem d_M_skip_106 : decode b_M_skip 106 = .ok (.iconst 2, 1) := by decide +kernel
theorem d_M_skip_107 : decode b_M_skip 107 = .ok (.iadd, 1) := by decide +kernel
theorem d_M_skip_108 : decode b_M_skip 108 = .ok (.istore_n 3, 1) := by decide +kernel
theorem d_M_skip_109 : decode b_M_skip 109 = .ok (.iload_n 3, 1) := by decide +kernel
theorem d_M_skip_110 : decode b_M_skip 110 = .ok (.iconst 1, 1) := by decide +kernel
theorem d_M_skip_111 : decode b_M_skip 111 = .ok (.iadd, 1) := by decide +kernel
theorem d_M_skip_112 : decode b_M_skip 112 = .ok (.aload_n 0, 1) := by decide +kernel
theorem d_M_skip_113 : decode b_M_skip 113 = .ok (.getfield 161, 3) := by decide +kernel
theorem d_M_skip_116 : decode b_M_skip 116 = .ok (.if_icmp .ge 34, 3) := by decide +kernel
theorem d_M_skip_119 : decode b_M_skip 119 = .ok (.aload_n 0, 1) := by decide +kernel
theorem d_M_skip_120 : decode b_M_skip 120 = .ok (.getfield 145, 3) := by decide +kernel
theorem d_M_skip_123 : decode b_M_skip 123 = .ok (.iload_n 3, 1) := by decide +kernel
theorem d_M_skip_124 : decode b_M_skip 124 = .ok (.iaload, 1) := by decide +kernel
theorem d_M_skip_125 : decode b_M_skip 125 = .ok (.bipush 42, 2) := by decide +kernel
theorem d_M_skip_127 : decode b_M_skip 127 = .ok (.if_icmp .ne 16, 3) := by decide +kernel
theorem d_M_skip_130 : decode b_M_skip 130 = .ok (.aload_n 0, 1) := by decide +kernel
theorem d_M_skip_131 : decode b_M_skip 131 = .ok (.getfield 145, 3) := by decide +kernel
theorem d_M_skip_134 : decode b_M_skip 134 = .ok (.iload_n 3, 1) := by decide +kernel
theorem d_M_skip_135 : decode b_M_skip 135 = .ok (.iconst 1, 1) := by decide +kernel
theorem d_M_skip_136 : decode b_M_skip 136 = .ok (.iadd, 1) := by decide +kernel
theorem d_M_skip_137 : decode b_M_skip 137 = .ok (.iaload, 1) := by decide +kernel
theorem d_M_skip_138 : decode b_M_skip 138 = .ok (.bipush 47, 2) := by decide +kernel
theorem d_M_skip_140 : decode b_M_skip 140 = .ok (.if_icmp .eq 10, 3) := by decide +kernel
theorem d_M_skip_143 : decode b_M_skip 143 = .ok (.iload_n 3, 1) := by decide +kernel
theorem d_M_skip_144 : decode b_M_skip 144 = .ok (.iconst 1, 1) := by decide +kernel
theorem d_M_skip_145 : decode b_M_skip 145 = .ok (.iadd, 1) := by decide +kernel
theorem d_M_skip_146 : decode b_M_skip 146 = .ok (.istore_n 3, 1) := by decide +kernel
theorem d_M_skip_147 : decode b_M_skip 147 = .ok (.goto (-38), 3) := by decide +kernel
theorem d_M_skip_150 : decode b_M_skip 150 = .ok (.iload_n 3, 1) := by decide +kernel
theorem d_M_skip_151 : decode b_M_skip 151 = .ok (.iconst 1, 1) := by decide +kernel
theorem d_M_skip_152 : decode b_M_skip 152 = .ok (.iadd, 1) := by decide +kernel
theorem d_M_skip_153 : decode b_M_skip 153 = .ok (.aload_n 0, 1) := by decide +kernel
theorem d_M_skip_154 : decode b_M_skip 154 = .ok (.getfield 161, 3) := by decide +kernel
theorem d_M_skip_157 : decode b_M_skip 157 = .ok (.if_icmp .lt 5, 3) := by decide +kernel
theorem d_M_skip_160 : decode b_M_skip 160 = .ok (.iconst 0, 1) := by decide +kernel
theorem d_M_skip_161 : decode b_M_skip 161 = .ok (.ireturn, 1) := by decide +kernel
theorem d_M_skip_162 : decode b_M_skip 162 = .ok (.aload_n 0, 1) := by decide +kernel
theorem d_M_skip_163 : decode b_M_skip 163 = .ok (.iload_n 3, 1) := by decide +kernel
theorem d_M_skip_164 : decode b_M_skip 164 = .ok (.iconst 2, 1) := by decide +kernel
theorem d_M_skip_165 : decode b_M_skip 165 = .ok (.iadd, 1) := by decide +kernel
theorem d_M_skip_166 : decode b_M_skip 166 = .ok (.putfield 164, 3) := by decide +kernel
theorem d_M_skip_169 : decode b_M_skip 169 = .ok (.goto 5, 3) := by decide +kernel
theorem d_M_skip_172 : decode b_M_skip 172 = .ok (.iconst 0, 1) := by decide +kernel
theorem d_M_skip_173 : decode b_M_skip 173 = .ok (.istore_n 1, 1) := by decide +kernel
theorem d_M_skip_174 : decode b_M_skip 174 = .ok (.goto (-172), 3) := by decide +kernel
theorem d_M_skip_177 : decode b_M_skip 177 = .ok (.iconst 1, 1) := by decide +kernel
theorem d_M_skip_178 : decode b_M_skip 178 = .ok (.ireturn, 1) := by decide +kernel
theorem d_M_step_0 : decode b_M_step 0 = .ok (.iload_n 1, 1) := by decide +kernel
theorem d_M_step_1 : decode b_M_step 1 = .ok (.tableswitch 224 0 5 #[39, 39, 94, 138, 186, 191], 39) := by decide +kernel
theorem d_M_step_40 : decode b_M_step 40 = .ok (.aload_n 0, 1) := by decide +kernel
theorem d_M_step_41 : decode b_M_step 41 = .ok (.iconst 1, 1) := by decide +kernel
theorem d_M_step_42 : decode b_M_step 42 = .ok (.invokevirtual 246, 3) := by decide +kernel
theorem d_M_step_45 : decode b_M_step 45 = .ok (.ifCond .eq 15, 3) := by decide +kernel
theorem d_M_step_48 : decode b_M_step 48 = .ok (.aload_n 0, 1) := by decide +kernel
theorem d_M_step_49 : decode b_M_step 49 = .ok (.iload_n 1, 1) := by decide +kernel
theorem d_M_step_50 : decode b_M_step 50 = .ok (.invokevirtual 279, 3) := by decide +kernel
theorem d_M_step_53 : decode b_M_step 53 = .ok (.aload_n 0, 1) := by decide +kernel
theorem d_M_step_54 : decode b_M_step 54 = .ok (.invokevirtual 321, 3) := by decide +kernel
theorem d_M_step_57 : decode b_M_step 57 = .ok (.goto 37, 3) := by decide +kernel
theorem d_M_step_60 : decode b_M_step 60 = .ok (.iload_n 1, 1) := by decide +kernel
theorem d_M_step_61 : decode b_M_step 61 = .ok (.ifCond .ne 17, 3) := by decide +kernel
theorem d_M_step_64 : decode b_M_step 64 = .ok (.aload_n 0, 1) := by decide +kernel
theorem d_M_step_65 : decode b_M_step 65 = .ok (.getfield 199, 3) := by decide +kernel
theorem d_M_step_68 : decode b_M_step 68 = .ok (.ifCond .eq 26, 3) := by decide +kernel
theorem d_M_step_71 : decode b_M_step 71 = .ok (.aload_n 0, 1) := by decide +kernel
theorem d_M_step_72 : decode b_M_step 72 = .ok (.invokevirtual 202, 3) := by decide +kernel
theorem d_M_step_75 : decode b_M_step 75 = .ok (.goto 19, 3) := by decide +kernel
theorem d_M_step_78 : decode b_M_step 78 = .ok (.aload_n 0, 1) := by decide +kernel
theorem d_M_step_79 : decode b_M_step 79 = .ok (.bipush 125, 2) := by decide +kernel
theorem d_M_step_81 : decode b_M_step 81 = .ok (.invokevirtual 273, 3) := by decide +kernel
theorem d_M_step_84 : decode b_M_step 84 = .ok (.aload_n 0, 1) := by decide +kernel
theorem d_M_step_85 : decode b_M_step 85 = .ok (.aload_n 0, 1) := by decide +kernel
theorem d_M_step_86 : decode b_M_step 86 = .ok (.getfield 324, 3) := by decide +kernel
theorem d_M_step_89 : decode b_M_step 89 = .ok (.iconst 1, 1) := by decide +kernel
theorem d_M_step_90 : decode b_M_step 90 = .ok (.isub, 1) := by decide +kernel
theorem d_M_step_91 : decode b_M_step 91 = .ok (.putfield 324, 3) := by decide +kernel
theorem d_M_step_94 : decode b_M_step 94 = .ok (.return_, 1) := by decide +kernel
theorem d_M_step_95 : decode b_M_step 95 = .ok (.aload_n 0, 1) := by decide +kernel
theorem d_M_step_96 : decode b_M_step 96 = .ok (.bipush 123, 2) := by decide +kernel
theorem d_M_step_98 : decode b_M_step 98 = .ok (.invokevirtual 249, 3) := by decide +kernel
theorem d_M_step_101 : decode b_M_step 101 = .ok (.ifCond .eq 16, 3) := by decide +kernel
theorem d_M_step_104 : decode b_M_step 104 = .ok (.aload_n 0, 1) := by decide +kernel
theorem d_M_step_105 : decode b_M_step 105 = .ok (.getfield 324, 3) := by decide +kernel
theorem d_M_step_108 : decode b_M_step 108 = .ok (.bipush 8, 2) := by decide +kernel
theorem d_M_step_110 : decode b_M_step 110 = .ok (.if_icmp .ne 7, 3) := by decide +kernel
theorem d_M_step_113 : decode b_M_step 113 = .ok (.aload_n 0, 1) := by decide +kernel
theorem d_M_step_114 : decode b_M_step 114 = .ok (.invokevirtual 202, 3) := by decide +kernel
theorem d_M_step_117 : decode b_M_step 117 = .ok (.aload_n 0, 1) := by decide +kernel
theorem d_M_step_118 : decode b_M_step 118 = .ok (.bipush 123, 2) := by decide +kernel
theorem d_M_step_120 : decode b_M_step 120 = .ok (.invokevirtual 273, 3) := by decide +kernel
theorem d_M_step_123 : decode b_M_step 123 = .ok (.aload_n 0, 1) := by decide +kernel
theorem d_M_step_124 : decode b_M_step 124 = .ok (.aload_n 0, 1) := by decide +kernel
theorem d_M_step_125 : decode b_M_step 125 = .ok (.getfield 324, 3) := by decide +kernel
theorem d_M_step_128 : decode b_M_step 128 = .ok (.iconst 1, 1) := by decide +kernel
theorem d_M_step_129 : decode b_M_step 129 = .ok (.iadd, 1) := by decide +kernel
theorem d_M_step_130 : decode b_M_step 130 = .ok (.putfield 324, 3) := by decide +kernel
theorem d_M_step_133 : decode b_M_step 133 = .ok (.aload_n 0, 1) := by decide +kernel
theorem d_M_step_134 : decode b_M_step 134 = .ok (.iconst 1, 1) := by decide +kernel
theorem d_M_step_135 : decode b_M_step 135 = .ok (.invokevirtual 279, 3) := by decide +kernel
theorem d_M_step_138 : decode b_M_step 138 = .ok (.return_, 1) := by decide +kernel
theorem d_M_step_139 : decode b_M_step 139 = .ok (.aload_n 0, 1) := by decide +kernel
theorem d_M_step_140 : decode b_M_step 140 = .ok (.iconst 2, 1) := by decide +kernel
theorem d_M_step_141 : decode b_M_step 141 = .ok (.invokevirtual 327, 3) := by decide +kernel
theorem d_M_step_144 : decode b_M_step 144 = .ok (.ifCond .eq 25, 3) := by decide +kernel
theorem d_M_step_147 : decode b_M_step 147 = .ok (.aload_n 0, 1) := by decide +kernel
theorem d_M_step_148 : decode b_M_step 148 = .ok (.invokevirtual 252, 3) := by decide +kernel
theorem d_M_step_151 : decode b_M_step 151 = .ok (.aload_n 0, 1) := by decide +kernel
theorem d_M_step_152 : decode b_M_step 152 = .ok (.iconst 3, 1) := by decide +kernel
theorem d_M_step_153 : decode b_M_step 153 = .ok (.invokevirtual 279, 3) := by decide +kernel
theorem d_M_step_156 : decode b_M_step 156 = .ok (.aload_n 0, 1) := by decide +kernel
theorem d_M_step_157 : decode b_M_step 157 = .ok (.iconst 2, 1) := by decide +kernel
theorem d_M_step_158 : decode b_M_step 158 = .ok (.invokevirtual 279, 3) := by decide +kernel
theorem d_M_step_161 : decode b_M_step 161 = .ok (.aload_n 0, 1) := by decide +kernel
theorem d_M_step_162 : decode b_M_step 162 = .ok (.iconst 4, 1) := by decide +kernel
theorem d_M_step_163 : decode b_M_step 163 = .ok (.invokevirtual 279, 3) := by decide +kernel
theorem d_M_step_166 : decode b_M_step 166 = .ok (.goto 20, 3) := by decide +kernel
theorem d_M_step_169 : decode b_M_step 169 = .ok (.aload_n 0, 1) := by decide +kernel
theorem d_M_step_170 : decode b_M_step 170 = .ok (.iconst 3, 1) := by decide +kernel
theorem d_M_step_171 : decode b_M_step 171 = .ok (.invokevirtual 327, 3) := by decide +kernel
theorem d_M_step_174 : decode b_M_step 174 = .ok (.ifCond .eq 12, 3) := by decide +kernel
theorem d_M_step_177 : decode b_M_step 177 = .ok (.aload_n 0, 1) := by decide +kernel
theorem d_M_step_178 : decode b_M_step 178 = .ok (.invokevirtual 252, 3) := by decide +kernel
theorem d_M_step_181 : decode b_M_step 181 = .ok (.aload_n 0, 1) := by decide +kernel
theorem d_M_step_182 : decode b_M_step 182 = .ok (.iconst 2, 1) := by decide +kernel
theorem d_M_step_183 : decode b_M_step 183 = .ok (.invokevirtual 279, 3) := by decide +kernel
theorem d_M_step_186 : decode b_M_step 186 = .ok (.return_, 1) := by decide +kernel
theorem d_M_step_187 : decode b_M_step 187 = .ok (.aload_n 0, 1) := by decide +kernel
theorem d_M_step_188 : decode b_M_step 188 = .ok (.invokevirtual 330, 3) := by decide +kernel
theorem d_M_step_191 : decode b_M_step 191 = .ok (.return_, 1) := by decide +kernel
theorem d_M_step_192 : decode b_M_step 192 = .ok (.aload_n 0, 1) := by decide +kernel
theorem d_M_step_193 : decode b_M_step 193 = .ok (.bipush 44, 2) := by decide +kernel
theorem d_M_step_195 : decode b_M_step 195 = .ok (.invokevirtual 249, 3) := by decide +kernel
theorem d_M_step_198 : decode b_M_step 198 = .ok (.ifCond .eq 20, 3) := by decide +kernel
theorem d_M_step_201 : decode b_M_step 201 = .ok (.aload_n 0, 1) := by decide +kernel
theorem d_M_step_202 : decode b_M_step 202 = .ok (.invokevirtual 252, 3) := by decide +kernel
theorem d_M_step_205 : decode b_M_step 205 = .ok (.aload_n 0, 1) := by decide +kernel
theorem d_M_step_206 : decode b_M_step 206 = .ok (.iconst 5, 1) := by decide +kernel
theorem d_M_step_207 : decode b_M_step 207 = .ok (.invokevirtual 279, 3) := by decide +kernel
theorem d_M_step_210 : decode b_M_step 210 = .ok (.aload_n 0, 1) := by decide +kernel
theorem d_M_step_211 : decode b_M_step 211 = .ok (.iconst 4, 1) := by decide +kernel
theorem d_M_step_212 : decode b_M_step 212 = .ok (.invokevirtual 279, 3) := by decide +kernel
theorem d_M_step_215 : decode b_M_step 215 = .ok (.goto 9, 3) := by decide +kernel
theorem d_M_step_218 : decode b_M_step 218 = .ok (.aload_n 0, 1) := by decide +kernel
theorem d_M_step_219 : decode b_M_step 219 = .ok (.bipush 41, 2) := by decide +kernel
theorem d_M_step_221 : decode b_M_step 221 = .ok (.invokevirtual 273, 3) := by decide +kernel
theorem d_M_step_224 : decode b_M_step 224 = .ok (.return_, 1) := by decide +kernel
theorem d_M_step_225 : decode b_M_step 225 = .ok (.aload_n 0, 1) := by decide +kernel
theorem d_M_step_226 : decode b_M_step 226 = .ok (.aload_n 0, 1) := by decide +kernel
theorem d_M_step_227 : decode b_M_step 227 = .ok (.getfield 311, 3) := by decide +kernel
theorem d_M_step_230 : decode b_M_step 230 = .ok (.iconst 1, 1) := by decide +kernel
theorem d_M_step_231 : decode b_M_step 231 = .ok (.isub, 1) := by decide +kernel
theorem d_M_step_232 : decode b_M_step 232 = .ok (.putfield 311, 3) := by decide +kernel
theorem d_M_step_235 : decode b_M_step 235 = .ok (.return_, 1) := by decide +kernel
theorem d_M_string_0 : decode b_M_string 0 = .ok (.aload_n 0, 1) := by decide +kernel
theorem d_M_string_1 : decode b_M_string 1 = .ok (.iconst 4, 1) := by decide +kernel
theorem d_M_string_2 : decode b_M_string 2 = .ok (.invokevirtual 246, 3) := by decide +kernel
theorem d_M_string_5 : decode b_M_string 5 = .ok (.ifCond .eq 12, 3) := by decide +kernel
theorem d_M_string_8 : decode b_M_string 8 = .ok (.aload_n 0, 1) := by decide +kernel
theorem d_M_string_9 : decode b_M_string 9 = .ok (.getfield 264, 3) := by decide +kernel
theorem d_M_string_12 : decode b_M_string 12 = .ok (.bipush 60, 2) := by decide +kernel
theorem d_M_string_14 : decode b_M_string 14 = .ok (.if_icmp .ne 7, 3) := by decide +kernel
theorem d_M_string_17 : decode b_M_string 17 = .ok (.aload_n 0, 1) := by decide +kernel
theorem d_M_string_18 : decode b_M_string 18 = .ok (.invokevirtual 202, 3) := by decide +kernel
theorem d_M_string_21 : decode b_M_string 21 = .ok (.aload_n 0, 1) := by decide +kernel
theorem d_M_string_22 : decode b_M_string 22 = .ok (.getfield 154, 3) := by decide +kernel
theorem d_M_string_25 : decode b_M_string 25 = .ok (.ifCond .ge 13, 3) := by decide +kernel
theorem d_M_string_28 : decode b_M_string 28 = .ok (.aload_n 0, 1) := by decide +kernel
theorem d_M_string_29 : decode b_M_string 29 = .ok (.aload_n 0, 1) := by decide +kernel
theorem d_M_string_30 : decode b_M_string 30 = .ok (.getfield 264, 3) := by decide +kernel
theorem d_M_string_33 : decode b_M_string 33 = .ok (.iconst 1, 1) := by decide +kernel
theorem d_M_string_34 : decode b_M_string 34 = .ok (.iadd, 1) := by decide +kernel
theorem d_M_string_35 : decode b_M_string 35 = .ok (.putfield 264, 3) := by decide +kernel
theorem d_M_string_38 : decode b_M_string 38 = .ok (.return_, 1) := by decide +kernel
theorem d_M_tags_0 : decode b_M_tags 0 = .ok (.iconst 0, 1) := by decide +kernel
theorem d_M_tags_1 : decode b_M_tags 1 = .ok (.istore_n 2, 1) := by decide +kernel
theorem d_M_tags_2 : decode b_M_tags 2 = .ok (.iconst 0, 1) := by decide +kernel
theorem d_M_tags_3 : decode b_M_tags 3 = .ok (.istore_n 3, 1) := by decide +kernel
theorem d_M_tags_4 : decode b_M_tags 4 = .ok (.aload_n 0, 1) := by decide +kernel
theorem d_M_tags_5 : decode b_M_tags 5 = .ok (.iconst 2, 1) := by decide +kernel
theorem d_M_tags_6 : decode b_M_tags 6 = .ok (.invokevirtual 246, 3) := by decide +kernel
theorem d_M_tags_9 : decode b_M_tags 9 = .ok (.ifCond .eq 132, 3) := by decide +kernel
theorem d_M_tags_12 : decode b_M_tags 12 = .ok (.aload_n 0, 1) := by decide +kernel
theorem d_M_tags_13 : decode b_M_tags 13 = .ok (.bipush 25, 2) := by decide +kernel
theorem d_M_tags_15 : decode b_M_tags 15 = .ok (.invokevirtual 211, 3) := by decide +kernel
theorem d_M_tags_18 : decode b_M_tags 18 = .ok (.ifCond .eq 17, 3) := by decide +kernel
theorem d_M_tags_21 : decode b_M_tags 21 = .ok (.iload_n 1, 1) := by decide +kernel
theorem d_M_tags_22 : decode b_M_tags 22 = .ok (.bipush 8, 2) := by decide +kernel
theorem d_M_tags_24 : decode b_M_tags 24 = .ok (.if_icmp .eq 11, 3) := by decide +kernel
theorem d_M_tags_27 : decode b_M_tags 27 = .ok (.iload_n 2, 1) := by decide +kernel
theorem d_M_tags_28 : decode b_M_tags 28 = .ok (.ifCond .ne 7, 3) := by decide +kernel
theorem d_M_tags_31 : decode b_M_tags 31 = .ok (.iconst 1, 1) := by decide +kernel
theorem d_M_tags_32 : decode b_M_tags 32 = .ok (.goto 4, 3) := by decide +kernel
theorem d_M_tags_35 : decode b_M_tags 35 = .ok (.iconst 0, 1) := by decide +kernel
theorem d_M_tags_36 : decode b_M_tags 36 = .ok (.istore 4, 2) := by decide +kernel
theorem d_M_tags_38 : decode b_M_tags 38 = .ok (.aload_n 0, 1) := by decide +kernel
theorem d_M_tags_39 : decode b_M_tags 39 = .ok (.bipush 26, 2) := by decide +kernel
theorem d_M_tags_41 : decode b_M_tags 41 = .ok (.invokevirtual 211, 3) := by decide +kernel
theorem d_M_tags_44 : decode b_M_tags 44 = .ok (.ifCond .eq 17, 3) := by decide +kernel
theorem d_M_tags_47 : decode b_M_tags 47 = .ok (.iload_n 1, 1) := by decide +kernel
theorem d_M_tags_48 : decode b_M_tags 48 = .ok (.bipush 6, 2) := by decide +kernel
theorem d_M_tags_50 : decode b_M_tags 50 = .ok (.if_icmp .eq 11, 3) := by decide +kernel
theorem d_M_tags_53 : decode b_M_tags 53 = .ok (.iload_n 3, 1) := by decide +kernel
theorem d_M_tags_54 : decode b_M_tags 54 = .ok (.ifCond .ne 7, 3) := by decide +kernel
theorem d_M_tags_57 : decode b_M_tags 57 = .ok (.iconst 1, 1) := by decide +kernel
theorem d_M_tags_58 : decode b_M_tags 58 = .ok (.goto 4, 3) := by decide +kernel
theorem d_M_tags_61 : decode b_M_tags 61 = .ok (.iconst 0, 1) := by decide +kernel
theorem d_M_tags_62 : decode b_M_tags 62 = .ok (.istore 5, 2) := by decide +kernel
theorem d_M_tags_64 : decode b_M_tags 64 = .ok (.iload 4, 2) := by decide +kernel
theorem d_M_tags_66 : decode b_M_tags 66 = .ok (.ifCond .ne 12, 3) := by decide +kernel
theorem d_M_tags_69 : decode b_M_tags 69 = .ok (.iload 5, 2) := by decide +kernel
theorem d_M_tags_71 : decode b_M_tags 71 = .ok (.ifCond .ne 7, 3) := by decide +kernel
theorem d_M_tags_74 : decode b_M_tags 74 = .ok (.aload_n 0, 1) := by decide +kernel
theorem d_M_tags_75 : decode b_M_tags 75 = .ok (.invokevirtual 202, 3) := by decide +kernel
theorem d_M_tags_78 : decode b_M_tags 78 = .ok (.aload_n 0, 1) := by decide +kernel
theorem d_M_tags_79 : decode b_M_tags 79 = .ok (.iload 4, 2) := by decide +kernel
theorem d_M_tags_81 : decode b_M_tags 81 = .ok (.ifCond .eq 8, 3) := by decide +kernel
theorem d_M_tags_84 : decode b_M_tags 84 = .ok (.bipush 16, 2) := by decide +kernel
theorem d_M_tags_86 : decode b_M_tags 86 = .ok (.goto 5, 3) := by decide +kernel
theorem d_M_tags_89 : decode b_M_tags 89 = .ok (.bipush 8, 2) := by decide +kernel
theorem d_M_tags_91 : decode b_M_tags 91 = .ok (.invokevirtual 258, 3) := by decide +kernel
theorem d_M_tags_94 : decode b_M_tags 94 = .ok (.aload_n 0, 1) := by decide +kernel
theorem d_M_tags_95 : decode b_M_tags 95 = .ok (.invokevirtual 252, 3) := by decide +kernel
theorem d_M_tags_98 : decode b_M_tags 98 = .ok (.iload_n 2, 1) := by decide +kernel
theorem d_M_tags_99 : decode b_M_tags 99 = .ok (.ifCond .ne 8, 3) := by decide +kernel
theorem d_M_tags_102 : decode b_M_tags 102 = .ok (.iload 4, 2) := by decide +kernel
theorem d_M_tags_104 : decode b_M_tags 104 = .ok (.ifCond .eq 7, 3) := by decide +kernel
theorem d_M_tags_107 : decode b_M_tags 107 = .ok (.iconst 1, 1) := by decide +kernel
theorem d_M_tags_108 : decode b_M_tags 108 = .ok (.goto 4, 3) := by decide +kernel
theorem d_M_tags_111 : decode b_M_tags 111 = .ok (.iconst 0, 1) := by decide +kernel
theorem d_M_tags_112 : decode b_M_tags 112 = .ok (.istore_n 2, 1) := by decide +kernel
theorem d_M_tags_113 : decode b_M_tags 113 = .ok (.iload_n 3, 1) := by decide +kernel
theorem d_M_tags_114 : decode b_M_tags 114 = .ok (.ifCond .ne 8, 3) := by decide +kernel
theorem d_M_tags_117 : decode b_M_tags 117 = .ok (.iload 5, 2) := by decide +kernel
theorem d_M_tags_119 : decode b_M_tags 119 = .ok (.ifCond .eq 7, 3) := by decide +kernel
theorem d_M_tags_122 : decode b_M_tags 122 = .ok (.iconst 1, 1) := by decide +kernel
theorem d_M_tags_123 : decode b_M_tags 123 = .ok (.goto 4, 3) := by decide +kernel
theorem d_M_tags_126 : decode b_M_tags 126 = .ok (.iconst 0, 1) := by decide +kernel
theorem d_M_tags_127 : decode b_M_tags 127 = .ok (.istore_n 3, 1) := by decide +kernel
theorem d_M_tags_128 : decode b_M_tags 128 = .ok (.iload 4, 2) := by decide +kernel
theorem d_M_tags_130 : decode b_M_tags 130 = .ok (.ifCond .eq 8, 3) := by decide +kernel
theorem d_M_tags_133 : decode b_M_tags 133 = .ok (.aload_n 0, 1) := by decide +kernel
theorem d_M_tags_134 : decode b_M_tags 134 = .ok (.iconst 0, 1) := by decide +kernel
theorem d_M_tags_135 : decode b_M_tags 135 = .ok (.invokevirtual 294, 3) := by decide +kernel
theorem d_M_tags_138 : decode b_M_tags 138 = .ok (.goto (-134), 3) := by decide +kernel
theorem d_M_tags_141 : decode b_M_tags 141 = .ok (.return_, 1) := by decide +kernel
theorem d_M_take_0 : decode b_M_take 0 = .ok (.aload_n 0, 1) := by decide +kernel
theorem d_M_take_1 : decode b_M_take 1 = .ok (.iload_n 1, 1) := by decide +kernel
theorem d_M_take_2 : decode b_M_take 2 = .ok (.invokevirtual 249, 3) := by decide +kernel
theorem d_M_take_5 : decode b_M_take 5 = .ok (.ifCond .eq 10, 3) := by decide +kernel
theorem d_M_take_8 : decode b_M_take 8 = .ok (.aload_n 0, 1) := by decide +kernel
theorem d_M_take_9 : decode b_M_take 9 = .ok (.invokevirtual 252, 3) := by decide +kernel
theorem d_M_take_12 : decode b_M_take 12 = .ok (.goto 7, 3) := by decide +kernel
theorem d_M_take_15 : decode b_M_take 15 = .ok (.aload_n 0, 1) := by decide +kernel
theorem d_M_take_16 : decode b_M_take 16 = .ok (.invokevirtual 202, 3) := by decide +kernel
theorem d_M_take_19 : decode b_M_take 19 = .ok (.return_, 1) := by decide +kernel
theorem d_M_taken_0 : decode b_M_taken 0 = .ok (.aload_n 0, 1) := by decide +kernel
theorem d_M_taken_1 : decode b_M_taken 1 = .ok (.invokevirtual 267, 3) := by decide +kernel
theorem d_M_taken_4 : decode b_M_taken 4 = .ok (.aload_n 0, 1) := by decide +kernel
theorem d_M_taken_5 : decode b_M_taken 5 = .ok (.invokevirtual 252, 3) := by decide +kernel
theorem d_M_taken_8 : decode b_M_taken 8 = .ok (.return_, 1) := by decide +kernel
theorem d_M_test_0 : decode b_M_test 0 = .ok (.aload_n 0, 1) := by decide +kernel
theorem d_M_test_1 : decode b_M_test 1 = .ok (.iconst 1, 1) := by decide +kernel
theorem d_M_test_2 : decode b_M_test 2 = .ok (.invokevirtual 246, 3) := by decide +kernel
theorem d_M_test_5 : decode b_M_test 5 = .ok (.ifCond .eq 14, 3) := by decide +kernel
theorem d_M_test_8 : decode b_M_test 8 = .ok (.aload_n 0, 1) := by decide +kernel
theorem d_M_test_9 : decode b_M_test 9 = .ok (.bipush 14, 2) := by decide +kernel
theorem d_M_test_11 : decode b_M_test 11 = .ok (.bipush 11, 2) := by decide +kernel
theorem d_M_test_13 : decode b_M_test 13 = .ok (.invokevirtual 181, 3) := by decide +kernel
theorem d_M_test_16 : decode b_M_test 16 = .ok (.goto 4, 3) := by decide +kernel
theorem d_M_test_19 : decode b_M_test 19 = .ok (.iconst (-1), 1) := by decide +kernel
theorem d_M_test_20 : decode b_M_test 20 = .ok (.istore_n 1, 1) := by decide +kernel
theorem d_M_test_21 : decode b_M_test 21 = .ok (.iload_n 1, 1) := by decide +kernel
theorem d_M_test_22 : decode b_M_test 22 = .ok (.ifCond .lt 12, 3) := by decide +kernel
theorem d_M_test_25 : decode b_M_test 25 = .ok (.aload_n 0, 1) := by decide +kernel
theorem d_M_test_26 : decode b_M_test 26 = .ok (.getfield 311, 3) := by decide +kernel
theorem d_M_test_29 : decode b_M_test 29 = .ok (.bipush 8, 2) := by decide +kernel
theorem d_M_test_31 : decode b_M_test 31 = .ok (.if_icmp .ne 8, 3) := by decide +kernel
theorem d_M_test_34 : decode b_M_test 34 = .ok (.aload_n 0, 1) := by decide +kernel
theorem d_M_test_35 : decode b_M_test 35 = .ok (.invokevirtual 202, 3) := by decide +kernel
theorem d_M_test_38 : decode b_M_test 38 = .ok (.return_, 1) := by decide +kernel
theorem d_M_test_39 : decode b_M_test 39 = .ok (.aload_n 0, 1) := by decide +kernel
theorem d_M_test_40 : decode b_M_test 40 = .ok (.iload_n 1, 1) := by decide +kernel
theorem d_M_test_41 : decode b_M_test 41 = .ok (.bipush 16, 2) := by decide +kernel
theorem d_M_test_43 : decode b_M_test 43 = .ok (.if_icmp .ne 7, 3) := by decide +kernel
theorem d_M_test_46 : decode b_M_test 46 = .ok (.iconst 4, 1) := by decide +kernel
theorem d_M_test_47 : decode b_M_test 47 = .ok (.goto 15, 3) := by decide +kernel
theorem d_M_test_50 : decode b_M_test 50 = .ok (.iload_n 1, 1) := by decide +kernel
theorem d_M_test_51 : decode b_M_test 51 = .ok (.bipush 17, 2) := by decide +kernel
theorem d_M_test_53 : decode b_M_test 53 = .ok (.if_icmp .ne 8, 3) := by decide +kernel
theorem d_M_test_56 : decode b_M_test 56 = .ok (.bipush 16, 2) := by decide +kernel
theorem d_M_test_58 : decode b_M_test 58 = .ok (.goto 4, 3) := by decide +kernel
theorem d_M_test_61 : decode b_M_test 61 = .ok (.iconst 0, 1) := by decide +kernel
theorem d_M_test_62 : decode b_M_test 62 = .ok (.invokevirtual 276, 3) := by decide +kernel
theorem d_M_test_65 : decode b_M_test 65 = .ok (.aload_n 0, 1) := by decide +kernel
theorem d_M_test_66 : decode b_M_test 66 = .ok (.invokevirtual 252, 3) := by decide +kernel
theorem d_M_test_69 : decode b_M_test 69 = .ok (.iload_n 1, 1) := by decide +kernel
theorem d_M_test_70 : decode b_M_test 70 = .ok (.bipush 20, 2) := by decide +kernel
theorem d_M_test_72 : decode b_M_test 72 = .ok (.if_icmp .lt 48, 3) := by decide +kernel
theorem d_M_test_75 : decode b_M_test 75 = .ok (.iload_n 1, 1) := by decide +kernel
theorem d_M_test_76 : decode b_M_test 76 = .ok (.bipush 22, 2) := by decide +kernel
theorem d_M_test_78 : decode b_M_test 78 = .ok (.if_icmp .gt 42, 3) := by decide +kernel
theorem d_M_test_81 : decode b_M_test 81 = .ok (.aload_n 0, 1) := by decide +kernel
theorem d_M_test_82 : decode b_M_test 82 = .ok (.aload_n 0, 1) := by decide +kernel
theorem d_M_test_83 : decode b_M_test 83 = .ok (.getfield 311, 3) := by decide +kernel
theorem d_M_test_86 : decode b_M_test 86 = .ok (.iconst 1, 1) := by decide +kernel
theorem d_M_test_87 : decode b_M_test 87 = .ok (.iadd, 1) := by decide +kernel
theorem d_M_test_88 : decode b_M_test 88 = .ok (.putfield 311, 3) := by decide +kernel
theorem d_M_test_91 : decode b_M_test 91 = .ok (.aload_n 0, 1) := by decide +kernel
theorem d_M_test_92 : decode b_M_test 92 = .ok (.bipush 6, 2) := by decide +kernel
theorem d_M_test_94 : decode b_M_test 94 = .ok (.invokevirtual 279, 3) := by decide +kernel
theorem d_M_test_97 : decode b_M_test 97 = .ok (.iload_n 1, 1) := by decide +kernel
theorem d_M_test_98 : decode b_M_test 98 = .ok (.bipush 22, 2) := by decide +kernel
theorem d_M_test_100 : decode b_M_test 100 = .ok (.if_icmp .eq 14, 3) := by decide +kernel
theorem d_M_test_103 : decode b_M_test 103 = .ok (.aload_n 0, 1) := by decide +kernel
theorem d_M_test_104 : decode b_M_test 104 = .ok (.iconst 5, 1) := by decide +kernel
theorem d_M_test_105 : decode b_M_test 105 = .ok (.invokevirtual 279, 3) := by decide +kernel
theorem d_M_test_108 : decode b_M_test 108 = .ok (.aload_n 0, 1) := by decide +kernel
theorem d_M_test_109 : decode b_M_test 109 = .ok (.bipush 40, 2) := by decide +kernel
theorem d_M_test_111 : decode b_M_test 111 = .ok (.invokevirtual 273, 3) := by decide +kernel
theorem d_M_test_114 : decode b_M_test 114 = .ok (.aload_n 0, 1) := by decide +kernel
theorem d_M_test_115 : decode b_M_test 115 = .ok (.iconst 4, 1) := by decide +kernel
theorem d_M_test_116 : decode b_M_test 116 = .ok (.invokevirtual 279, 3) := by decide +kernel
theorem d_M_test_119 : decode b_M_test 119 = .ok (.return_, 1) := by decide +kernel
theorem d_M_test_120 : decode b_M_test 120 = .ok (.iload_n 1, 1) := by decide +kernel
theorem d_M_test_121 : decode b_M_test 121 = .ok (.bipush 18, 2) := by decide +kernel
theorem d_M_test_123 : decode b_M_test 123 = .ok (.if_icmp .ge 24, 3) := by decide +kernel
theorem d_M_test_126 : decode b_M_test 126 = .ok (.aload_n 0, 1) := by decide +kernel
theorem d_M_test_127 : decode b_M_test 127 = .ok (.iload_n 1, 1) := by decide +kernel
theorem d_M_test_128 : decode b_M_test 128 = .ok (.bipush 15, 2) := by decide +kernel
theorem d_M_test_130 : decode b_M_test 130 = .ok (.if_icmp .eq 9, 3) := by decide +kernel
theorem d_M_test_133 : decode b_M_test 133 = .ok (.iload_n 1, 1) := by decide +kernel
theorem d_M_test_134 : decode b_M_test 134 = .ok (.bipush 16, 2) := by decide +kernel
theorem d_M_test_136 : decode b_M_test 136 = .ok (.if_icmp .ne 7, 3) := by decide +kernel
theorem d_M_test_139 : decode b_M_test 139 = .ok (.iconst 1, 1) := by decide +kernel
theorem d_M_test_140 : decode b_M_test 140 = .ok (.goto 4, 3) := by decide +kernel
theorem d_M_test_143 : decode b_M_test 143 = .ok (.iconst 0, 1) := by decide +kernel
theorem d_M_test_144 : decode b_M_test 144 = .ok (.invokevirtual 314, 3) := by decide +kernel
theorem d_M_test_147 : decode b_M_test 147 = .ok (.iload_n 1, 1) := by decide +kernel
theorem d_M_test_148 : decode b_M_test 148 = .ok (.bipush 17, 2) := by decide +kernel
theorem d_M_test_150 : decode b_M_test 150 = .ok (.if_icmp .ge 8, 3) := by decide +kernel
theorem d_M_test_153 : decode b_M_test 153 = .ok (.aload_n 0, 1) := by decide +kernel
theorem d_M_test_154 : decode b_M_test 154 = .ok (.iconst 0, 1) := by decide +kernel
theorem d_M_test_155 : decode b_M_test 155 = .ok (.invokevirtual 294, 3) := by decide +kernel
theorem d_M_test_158 : decode b_M_test 158 = .ok (.iload_n 1, 1) := by decide +kernel
theorem d_M_test_159 : decode b_M_test 159 = .ok (.bipush 19, 2) := by decide +kernel
theorem d_M_test_161 : decode b_M_test 161 = .ok (.if_icmp .ge 8, 3) := by decide +kernel
theorem d_M_test_164 : decode b_M_test 164 = .ok (.aload_n 0, 1) := by decide +kernel
theorem d_M_test_165 : decode b_M_test 165 = .ok (.iconst 0, 1) := by decide +kernel
theorem d_M_test_166 : decode b_M_test 166 = .ok (.invokevirtual 294, 3) := by decide +kernel
theorem d_M_test_169 : decode b_M_test 169 = .ok (.iload_n 1, 1) := by decide +kernel
theorem d_M_test_170 : decode b_M_test 170 = .ok (.bipush 19, 2) := by decide +kernel
theorem d_M_test_172 : decode b_M_test 172 = .ok (.if_icmp .ne 33, 3) := by decide +kernel
theorem d_M_test_175 : decode b_M_test 175 = .ok (.aload_n 0, 1) := by decide +kernel
theorem d_M_test_176 : decode b_M_test 176 = .ok (.iconst 2, 1) := by decide +kernel
theorem d_M_test_177 : decode b_M_test 177 = .ok (.invokevirtual 246, 3) := by decide +kernel
theorem d_M_test_180 : decode b_M_test 180 = .ok (.ifCond .eq 13, 3) := by decide +kernel
theorem d_M_test_183 : decode b_M_test 183 = .ok (.aload_n 0, 1) := by decide +kernel
theorem d_M_test_184 : decode b_M_test 184 = .ok (.bipush 31, 2) := by decide +kernel
theorem d_M_test_186 : decode b_M_test 186 = .ok (.iconst 2, 1) := by decide +kernel
theorem d_M_test_187 : decode b_M_test 187 = .ok (.invokevirtual 181, 3) := by decide +kernel
theorem d_M_test_190 : decode b_M_test 190 = .ok (.ifCond .ge 7, 3) := by decide +kernel
theorem d_M_test_193 : decode b_M_test 193 = .ok (.aload_n 0, 1) := by decide +kernel
theorem d_M_test_194 : decode b_M_test 194 = .ok (.invokevirtual 202, 3) := by decide +kernel
theorem d_M_test_197 : decode b_M_test 197 = .ok (.aload_n 0, 1) := by decide +kernel
theorem d_M_test_198 : decode b_M_test 198 = .ok (.invokevirtual 252, 3) := by decide +kernel
theorem d_M_test_201 : decode b_M_test 201 = .ok (.aload_n 0, 1) := by decide +kernel
theorem d_M_test_202 : decode b_M_test 202 = .ok (.invokevirtual 308, 3) := by decide +kernel
theorem d_M_test_205 : decode b_M_test 205 = .ok (.return_, 1) := by decide +kernel
theorem d_M_token_0 : decode b_M_token 0 = .ok (.aload_n 0, 1) := by decide +kernel
theorem d_M_token_1 : decode b_M_token 1 = .ok (.iconst 0, 1) := by decide +kernel
theorem d_M_token_2 : decode b_M_token 2 = .ok (.invokevirtual 185, 3) := by decide +kernel
theorem d_M_token_5 : decode b_M_token 5 = .ok (.istore_n 1, 1) := by decide +kernel
theorem d_M_token_6 : decode b_M_token 6 = .ok (.aload_n 0, 1) := by decide +kernel
theorem d_M_token_7 : decode b_M_token 7 = .ok (.invokevirtual 205, 3) := by decide +kernel
theorem d_M_token_10 : decode b_M_token 10 = .ok (.iload_n 1, 1) := by decide +kernel
theorem d_M_token_11 : decode b_M_token 11 = .ok (.ifCond .ge 5, 3) := by decide +kernel
theorem d_M_token_14 : decode b_M_token 14 = .ok (.iconst 0, 1) := by decide +kernel
theorem d_M_token_15 : decode b_M_token 15 = .ok (.ireturn, 1) := by decide +kernel
theorem d_M_token_16 : decode b_M_token 16 = .ok (.iload_n 1, 1) := by decide +kernel
theorem d_M_token_17 : decode b_M_token 17 = .ok (.invokestatic 167, 3) := by decide +kernel
theorem d_M_token_20 : decode b_M_token 20 = .ok (.ifCond .ne 9, 3) := by decide +kernel
theorem d_M_token_23 : decode b_M_token 23 = .ok (.iload_n 1, 1) := by decide +kernel
theorem d_M_token_24 : decode b_M_token 24 = .ok (.bipush 95, 2) := by decide +kernel
theorem d_M_token_26 : decode b_M_token 26 = .ok (.if_icmp .ne 35, 3) := by decide +kernel
theorem d_M_token_29 : decode b_M_token 29 = .ok (.aload_n 0, 1) := by decide +kernel
theorem d_M_token_30 : decode b_M_token 30 = .ok (.invokevirtual 208, 3) := by decide +kernel
theorem d_M_token_33 : decode b_M_token 33 = .ok (.aload_n 0, 1) := by decide +kernel
theorem d_M_token_34 : decode b_M_token 34 = .ok (.bipush 54, 2) := by decide +kernel
theorem d_M_token_36 : decode b_M_token 36 = .ok (.invokevirtual 211, 3) := by decide +kernel
theorem d_M_token_39 : decode b_M_token 39 = .ok (.ifCond .eq 20, 3) := by decide +kernel
theorem d_M_token_42 : decode b_M_token 42 = .ok (.aload_n 0, 1) := by decide +kernel
theorem d_M_token_43 : decode b_M_token 43 = .ok (.iconst 0, 1) := by decide +kernel
theorem d_M_token_44 : decode b_M_token 44 = .ok (.invokevirtual 185, 3) := by decide +kernel
theorem d_M_token_47 : decode b_M_token 47 = .ok (.bipush 58, 2) := by decide +kernel
theorem d_M_token_49 : decode b_M_token 49 = .ok (.if_icmp .ne 10, 3) := by decide +kernel
theorem d_M_token_52 : decode b_M_token 52 = .ok (.aload_n 0, 1) := by decide +kernel
theorem d_M_token_53 : decode b_M_token 53 = .ok (.invokevirtual 214, 3) := by decide +kernel
theorem d_M_token_56 : decode b_M_token 56 = .ok (.goto 4, 3) := by decide +kernel
theorem d_M_token_59 : decode b_M_token 59 = .ok (.iconst 1, 1) := by decide +kernel
theorem d_M_token_60 : decode b_M_token 60 = .ok (.ireturn, 1) := by decide +kernel
theorem d_M_token_61 : decode b_M_token 61 = .ok (.iload_n 1, 1) := by decide +kernel
theorem d_M_token_62 : decode b_M_token 62 = .ok (.bipush 58, 2) := by decide +kernel
theorem d_M_token_64 : decode b_M_token 64 = .ok (.if_icmp .ne 42, 3) := by decide +kernel
theorem d_M_token_67 : decode b_M_token 67 = .ok (.aload_n 0, 1) := by decide +kernel
theorem d_M_token_68 : decode b_M_token 68 = .ok (.iconst 1, 1) := by decide +kernel
theorem d_M_token_69 : decode b_M_token 69 = .ok (.invokevirtual 185, 3) := by decide +kernel
theorem d_M_token_72 : decode b_M_token 72 = .ok (.invokestatic 167, 3) := by decide +kernel
theorem d_M_token_75 : decode b_M_token 75 = .ok (.ifCond .ne 15, 3) := by decide +kernel
theorem d_M_token_78 : decode b_M_token 78 = .ok (.aload_n 0, 1) := by decide +kernel
theorem d_M_token_79 : decode b_M_token 79 = .ok (.iconst 1, 1) := by decide +kernel
theorem d_M_token_80 : decode b_M_token 80 = .ok (.invokevirtual 185, 3) := by decide +kernel
theorem d_M_token_83 : decode b_M_token 83 = .ok (.bipush 95, 2) := by decide +kernel
theorem d_M_token_85 : decode b_M_token 85 = .ok (.if_icmp .eq 5, 3) := by decide +kernel
theorem d_M_token_88 : decode b_M_token 88 = .ok (.iconst 5, 1) := by decide +kernel
theorem d_M_token_89 : decode b_M_token 89 = .ok (.ireturn, 1) := by decide +kernel
theorem d_M_token_90 : decode b_M_token 90 = .ok (.aload_n 0, 1) := by decide +kernel
theorem d_M_token_91 : decode b_M_token 91 = .ok (.aload_n 0, 1) := by decide +kernel
theorem d_M_token_92 : decode b_M_token 92 = .ok (.getfield 164, 3) := by decide +kernel
theorem d_M_token_95 : decode b_M_token 95 = .ok (.iconst 1, 1) := by decide +kernel
theorem d_M_token_96 : decode b_M_token 96 = .ok (.iadd, 1) := by decide +kernel
theorem d_M_token_97 : decode b_M_token 97 = .ok (.putfield 164, 3) := by decide +kernel
theorem d_M_token_100 : decode b_M_token 100 = .ok (.aload_n 0, 1) := by decide +kernel
theorem d_M_token_101 : decode b_M_token 101 = .ok (.invokevirtual 208, 3) := by decide +kernel
theorem d_M_token_104 : decode b_M_token 104 = .ok (.iconst 2, 1) := by decide +kernel
theorem d_M_token_105 : decode b_M_token 105 = .ok (.ireturn, 1) := by decide +kernel
theorem d_M_token_106 : decode b_M_token 106 = .ok (.iload_n 1, 1) := by decide +kernel
theorem d_M_token_107 : decode b_M_token 107 = .ok (.invokestatic 171, 3) := by decide +kernel
theorem d_M_token_110 : decode b_M_token 110 = .ok (.ifCond .eq 8, 3) := by decide +kernel
theorem d_M_token_113 : decode b_M_token 113 = .ok (.aload_n 0, 1) := by decide +kernel
theorem d_M_token_114 : decode b_M_token 114 = .ok (.invokevirtual 217, 3) := by decide +kernel
theorem d_M_token_117 : decode b_M_token 117 = .ok (.ireturn, 1) := by decide +kernel
theorem d_M_token_118 : decode b_M_token 118 = .ok (.iload_n 1, 1) := by decide +kernel
theorem d_M_token_119 : decode b_M_token 119 = .ok (.bipush 34, 2) := by decide +kernel
theorem d_M_token_121 : decode b_M_token 121 = .ok (.if_icmp .ne 8, 3) := by decide +kernel
theorem d_M_token_124 : decode b_M_token 124 = .ok (.aload_n 0, 1) := by decide +kernel
theorem d_M_token_125 : decode b_M_token 125 = .ok (.invokevirtual 220, 3) := by decide +kernel
theorem d_M_token_128 : decode b_M_token 128 = .ok (.ireturn, 1) := by decide +kernel
theorem d_M_token_129 : decode b_M_token 129 = .ok (.iload_n 1, 1) := by decide +kernel
theorem d_M_token_130 : decode b_M_token 130 = .ok (.bipush 59, 2) := by decide +kernel
theorem d_M_token_132 : decode b_M_token 132 = .ok (.if_icmp .eq 45, 3) := by decide +kernel
theorem d_M_token_135 : decode b_M_token 135 = .ok (.iload_n 1, 1) := by decide +kernel
theorem d_M_token_136 : decode b_M_token 136 = .ok (.bipush 44, 2) := by decide +kernel
theorem d_M_token_138 : decode b_M_token 138 = .ok (.if_icmp .eq 39, 3) := by decide +kernel
theorem d_M_token_141 : decode b_M_token 141 = .ok (.iload_n 1, 1) := by decide +kernel
theorem d_M_token_142 : decode b_M_token 142 = .ok (.bipush 40, 2) := by decide +kernel
theorem d_M_token_144 : decode b_M_token 144 = .ok (.if_icmp .eq 33, 3) := by decide +kernel
theorem d_M_token_147 : decode b_M_token 147 = .ok (.iload_n 1, 1) := by decide +kernel
theorem d_M_token_148 : decode b_M_token 148 = .ok (.bipush 41, 2) := by decide +kernel
theorem d_M_token_150 : decode b_M_token 150 = .ok (.if_icmp .eq 27, 3) := by decide +kernel
theorem d_M_token_153 : decode b_M_token 153 = .ok (.iload_n 1, 1) := by decide +kernel
theorem d_M_token_154 : decode b_M_token 154 = .ok (.bipush 91, 2) := by decide +kernel
theorem d_M_token_156 : decode b_M_token 156 = .ok (.if_icmp .eq 21, 3) := by decide +kernel
theorem d_M_token_159 : decode b_M_token 159 = .ok (.iload_n 1, 1) := by decide +kernel
theorem d_M_token_160 : decode b_M_token 160 = .ok (.bipush 93, 2) := by decide +kernel
theorem d_M_token_162 : decode b_M_token 162 = .ok (.if_icmp .eq 15, 3) := by decide +kernel
theorem d_M_token_165 : decode b_M_token 165 = .ok (.iload_n 1, 1) := by decide +kernel
theorem d_M_token_166 : decode b_M_token 166 = .ok (.bipush 123, 2) := by decide +kernel
theorem d_M_token_168 : decode b_M_token 168 = .ok (.if_icmp .eq 9, 3) := by decide +kernel
theorem d_M_token_171 : decode b_M_token 171 = .ok (.iload_n 1, 1) := by decide +kernel
theorem d_M_token_172 : decode b_M_token 172 = .ok (.bipush 125, 2) := by decide +kernel
theorem d_M_token_174 : decode b_M_token 174 = .ok (.if_icmp .ne 7, 3) := by decide +kernel
theorem d_M_token_177 : decode b_M_token 177 = .ok (.iconst 1, 1) := by decide +kernel
theorem d_M_token_178 : decode b_M_token 178 = .ok (.goto 4, 3) := by decide +kernel
theorem d_M_token_181 : decode b_M_token 181 = .ok (.iconst 0, 1) := by decide +kernel
theorem d_M_token_182 : decode b_M_token 182 = .ok (.istore_n 2, 1) := by decide +kernel
theorem d_M_token_183 : decode b_M_token 183 = .ok (.iload_n 2, 1) := by decide +kernel
theorem d_M_token_184 : decode b_M_token 184 = .ok (.ifCond .ne 5, 3) := by decide +kernel
theorem d_M_token_187 : decode b_M_token 187 = .ok (.iconst 5, 1) := by decide +kernel
theorem d_M_token_188 : decode b_M_token 188 = .ok (.ireturn, 1) := by decide +kernel
theorem d_M_token_189 : decode b_M_token 189 = .ok (.aload_n 0, 1) := by decide +kernel
theorem d_M_token_190 : decode b_M_token 190 = .ok (.aload_n 0, 1) := by decide +kernel
theorem d_M_token_191 : decode b_M_token 191 = .ok (.getfield 164, 3) := by decide +kernel
theorem d_M_token_194 : decode b_M_token 194 = .ok (.iconst 1, 1) := by decide +kernel
theorem d_M_token_195 : decode b_M_token 195 = .ok (.iadd, 1) := by decide +kernel
theorem d_M_token_196 : decode b_M_token 196 = .ok (.putfield 164, 3) := by decide +kernel
theorem d_M_token_199 : decode b_M_token 199 = .ok (.bipush 100, 2) := by decide +kernel
theorem d_M_token_201 : decode b_M_token 201 = .ok (.iload_n 1, 1) := by decide +kernel
theorem d_M_token_202 : decode b_M_token 202 = .ok (.iadd, 1) := by decide +kernel
theorem d_M_token_203 : decode b_M_token 203 = .ok (.ireturn, 1) := by decide +kernel
theorem d_M_which_0 : decode b_M_which 0 = .ok (.iload_n 1, 1) := by decide +kernel
theorem d_M_which_1 : decode b_M_which 1 = .ok (.istore_n 3, 1) := by decide +kernel
theorem d_M_which_2 : decode b_M_which 2 = .ok (.iload_n 3, 1) := by decide +kernel
theorem d_M_which_3 : decode b_M_which 3 = .ok (.iload_n 1, 1) := by decide +kernel
theorem d_M_which_4 : decode b_M_which 4 = .ok (.iload_n 2, 1) := by decide +kernel
theorem d_M_which_5 : decode b_M_which 5 = .ok (.iadd, 1) := by decide +kernel
theorem d_M_which_6 : decode b_M_which 6 = .ok (.if_icmp .ge 85, 3) := by decide +kernel
theorem d_M_which_9 : decode b_M_which 9 = .ok (.aload_n 0, 1) := by decide +kernel
theorem d_M_which_10 : decode b_M_which 10 = .ok (.getfield 174, 3) := by decide +kernel
theorem d_M_which_13 : decode b_M_which 13 = .ok (.aload_n 0, 1) := by decide +kernel
theorem d_M_which_14 : decode b_M_which 14 = .ok (.getfield 141, 3) := by decide +kernel
theorem d_M_which_17 : decode b_M_which 17 = .ok (.iload_n 3, 1) := by decide +kernel
theorem d_M_which_18 : decode b_M_which 18 = .ok (.iaload, 1) := by decide +kernel
theorem d_M_which_19 : decode b_M_which 19 = .ok (.if_icmp .ne 7, 3) := by decide +kernel
theorem d_M_which_22 : decode b_M_which 22 = .ok (.iconst 1, 1) := by decide +kernel
theorem d_M_which_23 : decode b_M_which 23 = .ok (.goto 4, 3) := by decide +kernel
theorem d_M_which_26 : decode b_M_which 26 = .ok (.iconst 0, 1) := by decide +kernel
theorem d_M_which_27 : decode b_M_which 27 = .ok (.istore 4, 2) := by decide +kernel
theorem d_M_which_29 : decode b_M_which 29 = .ok (.iconst 0, 1) := by decide +kernel
theorem d_M_which_30 : decode b_M_which 30 = .ok (.istore 5, 2) := by decide +kernel
theorem d_M_which_32 : decode b_M_which 32 = .ok (.iload 5, 2) := by decide +kernel
theorem d_M_which_34 : decode b_M_which 34 = .ok (.iconst 4, 1) := by decide +kernel
theorem d_M_which_35 : decode b_M_which 35 = .ok (.if_icmp .ge 43, 3) := by decide +kernel
theorem d_M_which_38 : decode b_M_which 38 = .ok (.iload 4, 2) := by decide +kernel
theorem d_M_which_40 : decode b_M_which 40 = .ok (.ifCond .eq 38, 3) := by decide +kernel
theorem d_M_which_43 : decode b_M_which 43 = .ok (.aload_n 0, 1) := by decide +kernel
theorem d_M_which_44 : decode b_M_which 44 = .ok (.getfield 148, 3) := by decide +kernel
theorem d_M_which_47 : decode b_M_which 47 = .ok (.iload 5, 2) := by decide +kernel
theorem d_M_which_49 : decode b_M_which 49 = .ok (.laload, 1) := by decide +kernel
theorem d_M_which_50 : decode b_M_which 50 = .ok (.aload_n 0, 1) := by decide +kernel
theorem d_M_which_51 : decode b_M_which 51 = .ok (.getfield 135, 3) := by decide +kernel
theorem d_M_which_54 : decode b_M_which 54 = .ok (.iconst 4, 1) := by decide +kernel
theorem d_M_which_55 : decode b_M_which 55 = .ok (.iload_n 3, 1) := by decide +kernel
theorem d_M_which_56 : decode b_M_which 56 = .ok (.imul, 1) := by decide +kernel
theorem d_M_which_57 : decode b_M_which 57 = .ok (.iload 5, 2) := by decide +kernel
theorem d_M_which_59 : decode b_M_which 59 = .ok (.iadd, 1) := by decide +kernel
theorem d_M_which_60 : decode b_M_which 60 = .ok (.laload, 1) := by decide +kernel
theorem d_M_which_61 : decode b_M_which 61 = .ok (.lcmp, 1) := by decide +kernel
theorem d_M_which_62 : decode b_M_which 62 = .ok (.ifCond .ne 7, 3) := by decide +kernel
theorem d_M_which_65 : decode b_M_which 65 = .ok (.iconst 1, 1) := by decide +kernel
theorem d_M_which_66 : decode b_M_which 66 = .ok (.goto 4, 3) := by decide +kernel
theorem d_M_which_69 : decode b_M_which 69 = .ok (.iconst 0, 1) := by decide +kernel
theorem d_M_which_70 : decode b_M_which 70 = .ok (.istore 4, 2) := by decide +kernel
theorem d_M_which_72 : decode b_M_which 72 = .ok (.iinc 5 1, 3) := by decide +kernel
theorem d_M_which_75 : decode b_M_which 75 = .ok (.goto (-43), 3) := by decide +kernel
theorem d_M_which_78 : decode b_M_which 78 = .ok (.iload 4, 2) := by decide +kernel
theorem d_M_which_80 : decode b_M_which 80 = .ok (.ifCond .eq 5, 3) := by decide +kernel
theorem d_M_which_83 : decode b_M_which 83 = .ok (.iload_n 3, 1) := by decide +kernel
theorem d_M_which_84 : decode b_M_which 84 = .ok (.ireturn, 1) := by decide +kernel
theorem d_M_which_85 : decode b_M_which 85 = .ok (.iinc 3 1, 3) := by decide +kernel
theorem d_M_which_88 : decode b_M_which 88 = .ok (.goto (-86), 3) := by decide +kernel
theorem d_M_which_91 : decode b_M_which 91 = .ok (.iconst (-1), 1) := by decide +kernel
theorem d_M_which_92 : decode b_M_which 92 = .ok (.ireturn, 1) := by decide +kernel
theorem d_M_wordOf_0 : decode b_M_wordOf 0 = .ok (.aload_n 0, 1) := by decide +kernel
theorem d_M_wordOf_1 : decode b_M_wordOf 1 = .ok (.iconst 0, 1) := by decide +kernel
theorem d_M_wordOf_2 : decode b_M_wordOf 2 = .ok (.invokevirtual 185, 3) := by decide +kernel
theorem d_M_wordOf_5 : decode b_M_wordOf 5 = .ok (.invokestatic 223, 3) := by decide +kernel
theorem d_M_wordOf_8 : decode b_M_wordOf 8 = .ok (.ifCond .eq 25, 3) := by decide +kernel
theorem d_M_wordOf_11 : decode b_M_wordOf 11 = .ok (.aload_n 0, 1) := by decide +kernel
theorem d_M_wordOf_12 : decode b_M_wordOf 12 = .ok (.aload_n 0, 1) := by decide +kernel
theorem d_M_wordOf_13 : decode b_M_wordOf 13 = .ok (.iconst 0, 1) := by decide +kernel
theorem d_M_wordOf_14 : decode b_M_wordOf 14 = .ok (.invokevirtual 185, 3) := by decide +kernel
theorem d_M_wordOf_17 : decode b_M_wordOf 17 = .ok (.invokevirtual 226, 3) := by decide +kernel
theorem d_M_wordOf_20 : decode b_M_wordOf 20 = .ok (.aload_n 0, 1) := by decide +kernel
theorem d_M_wordOf_21 : decode b_M_wordOf 21 = .ok (.aload_n 0, 1) := by decide +kernel
theorem d_M_wordOf_22 : decode b_M_wordOf 22 = .ok (.getfield 164, 3) := by decide +kernel
theorem d_M_wordOf_25 : decode b_M_wordOf 25 = .ok (.iconst 1, 1) := by decide +kernel
theorem d_M_wordOf_26 : decode b_M_wordOf 26 = .ok (.iadd, 1) := by decide +kernel
theorem d_M_wordOf_27 : decode b_M_wordOf 27 = .ok (.putfield 164, 3) := by decide +kernel
theorem d_M_wordOf_30 : decode b_M_wordOf 30 = .ok (.goto (-30), 3) := by decide +kernel
theorem d_M_wordOf_33 : decode b_M_wordOf 33 = .ok (.return_, 1) := by decide +kernel
