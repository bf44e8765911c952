theorem d_D_spelled_0 : decode b_D_spelled 0 = .ok (.iconst 0, 1) := by decide +kernel
theorem d_D_spelled_1 : decode b_D_spelled 1 = .ok (.istore_n 3, 1) := by decide +kernel
theorem d_D_spelled_2 : decode b_D_spelled 2 = .ok (.iload_n 3, 1) := by decide +kernel
theorem d_D_spelled_3 : decode b_D_spelled 3 = .ok (.getstatic 171, 3) := by decide +kernel
theorem d_D_spelled_6 : decode b_D_spelled 6 = .ok (.arraylength, 1) := by decide +kernel
theorem d_D_spelled_7 : decode b_D_spelled 7 = .ok (.if_icmp .ge 32, 3) := by decide +kernel
theorem d_D_spelled_10 : decode b_D_spelled 10 = .ok (.aload_n 0, 1) := by decide +kernel
theorem d_D_spelled_11 : decode b_D_spelled 11 = .ok (.iload_n 1, 1) := by decide +kernel
theorem d_D_spelled_12 : decode b_D_spelled 12 = .ok (.iload_n 2, 1) := by decide +kernel
theorem d_D_spelled_13 : decode b_D_spelled 13 = .ok (.getstatic 171, 3) := by decide +kernel
theorem d_D_spelled_16 : decode b_D_spelled 16 = .ok (.iload_n 3, 1) := by decide +kernel
theorem d_D_spelled_17 : decode b_D_spelled 17 = .ok (.aaload, 1) := by decide +kernel
theorem d_D_spelled_18 : decode b_D_spelled 18 = .ok (.getfield 154, 3) := by decide +kernel
theorem d_D_spelled_21 : decode b_D_spelled 21 = .ok (.invokestatic 174, 3) := by decide +kernel
theorem d_D_spelled_24 : decode b_D_spelled 24 = .ok (.ifCond .eq 9, 3) := by decide +kernel
theorem d_D_spelled_27 : decode b_D_spelled 27 = .ok (.getstatic 171, 3) := by decide +kernel
theorem d_D_spelled_30 : decode b_D_spelled 30 = .ok (.iload_n 3, 1) := by decide +kernel
theorem d_D_spelled_31 : decode b_D_spelled 31 = .ok (.aaload, 1) := by decide +kernel
theorem d_D_spelled_32 : decode b_D_spelled 32 = .ok (.areturn, 1) := by decide +kernel
theorem d_D_spelled_33 : decode b_D_spelled 33 = .ok (.iinc 3 1, 3) := by decide +kernel
theorem d_D_spelled_36 : decode b_D_spelled 36 = .ok (.goto (-34), 3) := by decide +kernel
theorem d_D_spelled_39 : decode b_D_spelled 39 = .ok (.getstatic 5, 3) := by decide +kernel
theorem d_D_spelled_42 : decode b_D_spelled 42 = .ok (.areturn, 1) := by decide +kernel
theorem d_G_advance_0 : decode b_G_advance 0 = .ok (.aload_n 0, 1) := by decide +kernel
theorem d_G_advance_1 : decode b_G_advance 1 = .ok (.getfield 53, 3) := by decide +kernel
theorem d_G_advance_4 : decode b_G_advance 4 = .ok (.iconst 1, 1) := by decide +kernel
theorem d_G_advance_5 : decode b_G_advance 5 = .ok (.iadd, 1) := by decide +kernel
theorem d_G_advance_6 : decode b_G_advance 6 = .ok (.aload_n 0, 1) := by decide +kernel
theorem d_G_advance_7 : decode b_G_advance 7 = .ok (.getfield 9, 3) := by decide +kernel
theorem d_G_advance_10 : decode b_G_advance 10 = .ok (.getfield 75, 3) := by decide +kernel
theorem d_G_advance_13 : decode b_G_advance 13 = .ok (.if_icmp .ge 15, 3) := by decide +kernel
theorem d_G_advance_16 : decode b_G_advance 16 = .ok (.aload_n 0, 1) := by decide +kernel
theorem d_G_advance_17 : decode b_G_advance 17 = .ok (.getfield 53, 3) := by decide +kernel
theorem d_G_advance_20 : decode b_G_advance 20 = .ok (.iconst 1, 1) := by decide +kernel
theorem d_G_advance_21 : decode b_G_advance 21 = .ok (.iadd, 1) := by decide +kernel
theorem d_G_advance_22 : decode b_G_advance 22 = .ok (.sipush 401, 3) := by decide +kernel
theorem d_G_advance_25 : decode b_G_advance 25 = .ok (.if_icmp .lt 4, 3) := by decide +kernel
theorem d_G_advance_28 : decode b_G_advance 28 = .ok (.return_, 1) := by decide +kernel
theorem d_G_advance_29 : decode b_G_advance 29 = .ok (.aload_n 0, 1) := by decide +kernel
theorem d_G_advance_30 : decode b_G_advance 30 = .ok (.dup, 1) := by decide +kernel
theorem d_G_advance_31 : decode b_G_advance 31 = .ok (.getfield 53, 3) := by decide +kernel
theorem d_G_advance_34 : decode b_G_advance 34 = .ok (.iconst 1, 1) := by decide +kernel
theorem d_G_advance_35 : decode b_G_advance 35 = .ok (.iadd, 1) := by decide +kernel
theorem d_G_advance_36 : decode b_G_advance 36 = .ok (.putfield 53, 3) := by decide +kernel
theorem d_G_advance_39 : decode b_G_advance 39 = .ok (.aload_n 0, 1) := by decide +kernel
theorem d_G_advance_40 : decode b_G_advance 40 = .ok (.aload_n 0, 1) := by decide +kernel
theorem d_G_advance_41 : decode b_G_advance 41 = .ok (.getfield 9, 3) := by decide +kernel
theorem d_G_advance_44 : decode b_G_advance 44 = .ok (.getfield 78, 3) := by decide +kernel
theorem d_G_advance_47 : decode b_G_advance 47 = .ok (.aload_n 0, 1) := by decide +kernel
theorem d_G_advance_48 : decode b_G_advance 48 = .ok (.getfield 53, 3) := by decide +kernel
theorem d_G_advance_51 : decode b_G_advance 51 = .ok (.iaload, 1) := by decide +kernel
theorem d_G_advance_52 : decode b_G_advance 52 = .ok (.putfield 81, 3) := by decide +kernel
theorem d_G_advance_55 : decode b_G_advance 55 = .ok (.aload_n 0, 1) := by decide +kernel
theorem d_G_advance_56 : decode b_G_advance 56 = .ok (.getfield 9, 3) := by decide +kernel
theorem d_G_advance_59 : decode b_G_advance 59 = .ok (.getfield 84, 3) := by decide +kernel
theorem d_G_advance_62 : decode b_G_advance 62 = .ok (.aload_n 0, 1) := by decide +kernel
theorem d_G_advance_63 : decode b_G_advance 63 = .ok (.getfield 53, 3) := by decide +kernel
theorem d_G_advance_66 : decode b_G_advance 66 = .ok (.aaload, 1) := by decide +kernel
theorem d_G_advance_67 : decode b_G_advance 67 = .ok (.astore_n 1, 1) := by decide +kernel
theorem d_G_advance_68 : decode b_G_advance 68 = .ok (.aload_n 0, 1) := by decide +kernel
theorem d_G_advance_69 : decode b_G_advance 69 = .ok (.aload_n 0, 1) := by decide +kernel
theorem d_G_advance_70 : decode b_G_advance 70 = .ok (.getfield 81, 3) := by decide +kernel
theorem d_G_advance_73 : decode b_G_advance 73 = .ok (.iconst 1, 1) := by decide +kernel
theorem d_G_advance_74 : decode b_G_advance 74 = .ok (.if_icmp .ne 11, 3) := by decide +kernel
theorem d_G_advance_77 : decode b_G_advance 77 = .ok (.aload_n 1, 1) := by decide +kernel
theorem d_G_advance_78 : decode b_G_advance 78 = .ok (.ifnull 7, 3) := by decide +kernel
theorem d_G_advance_81 : decode b_G_advance 81 = .ok (.aload_n 1, 1) := by decide +kernel
theorem d_G_advance_82 : decode b_G_advance 82 = .ok (.goto 6, 3) := by decide +kernel
theorem d_G_advance_85 : decode b_G_advance 85 = .ok (.getstatic 19, 3) := by decide +kernel
theorem d_G_advance_88 : decode b_G_advance 88 = .ok (.putfield 25, 3) := by decide +kernel
theorem d_G_advance_91 : decode b_G_advance 91 = .ok (.aload_n 0, 1) := by decide +kernel
theorem d_G_advance_92 : decode b_G_advance 92 = .ok (.aload_n 0, 1) := by decide +kernel
theorem d_G_advance_93 : decode b_G_advance 93 = .ok (.getfield 81, 3) := by decide +kernel
theorem d_G_advance_96 : decode b_G_advance 96 = .ok (.iconst 2, 1) := by decide +kernel
theorem d_G_advance_97 : decode b_G_advance 97 = .ok (.if_icmp .ne 11, 3) := by decide +kernel
theorem d_G_advance_100 : decode b_G_advance 100 = .ok (.aload_n 1, 1) := by decide +kernel
theorem d_G_advance_101 : decode b_G_advance 101 = .ok (.ifnull 7, 3) := by decide +kernel
theorem d_G_advance_104 : decode b_G_advance 104 = .ok (.aload_n 1, 1) := by decide +kernel
theorem d_G_advance_105 : decode b_G_advance 105 = .ok (.goto 6, 3) := by decide +kernel
theorem d_G_advance_108 : decode b_G_advance 108 = .ok (.getstatic 19, 3) := by decide +kernel
theorem d_G_advance_111 : decode b_G_advance 111 = .ok (.putfield 28, 3) := by decide +kernel
theorem d_G_advance_114 : decode b_G_advance 114 = .ok (.aload_n 0, 1) := by decide +kernel
theorem d_G_advance_115 : decode b_G_advance 115 = .ok (.aload_n 0, 1) := by decide +kernel
theorem d_G_advance_116 : decode b_G_advance 116 = .ok (.getfield 9, 3) := by decide +kernel
theorem d_G_advance_119 : decode b_G_advance 119 = .ok (.getfield 88, 3) := by decide +kernel
theorem d_G_advance_122 : decode b_G_advance 122 = .ok (.aload_n 0, 1) := by decide +kernel
theorem d_G_advance_123 : decode b_G_advance 123 = .ok (.getfield 53, 3) := by decide +kernel
theorem d_G_advance_126 : decode b_G_advance 126 = .ok (.iaload, 1) := by decide +kernel
theorem d_G_advance_127 : decode b_G_advance 127 = .ok (.putfield 91, 3) := by decide +kernel
theorem d_G_advance_130 : decode b_G_advance 130 = .ok (.return_, 1) := by decide +kernel
theorem d_G_begin_0 : decode b_G_begin 0 = .ok (.aload_n 0, 1) := by decide +kernel
theorem d_G_begin_1 : decode b_G_begin 1 = .ok (.getfield 31, 3) := by decide +kernel
theorem d_G_begin_4 : decode b_G_begin 4 = .ok (.bipush 40, 2) := by decide +kernel
theorem d_G_begin_6 : decode b_G_begin 6 = .ok (.if_icmp .ge 17, 3) := by decide +kernel
theorem d_G_begin_9 : decode b_G_begin 9 = .ok (.aload_n 0, 1) := by decide +kernel
theorem d_G_begin_10 : decode b_G_begin 10 = .ok (.aload_n 0, 1) := by decide +kernel
theorem d_G_begin_11 : decode b_G_begin 11 = .ok (.getfield 25, 3) := by decide +kernel
theorem d_G_begin_14 : decode b_G_begin 14 = .ok (.getfield 155, 3) := by decide +kernel
theorem d_G_begin_17 : decode b_G_begin 17 = .ok (.invokevirtual 142, 3) := by decide +kernel
theorem d_G_begin_20 : decode b_G_begin 20 = .ok (.ifCond .eq 5, 3) := by decide +kernel
theorem d_G_begin_23 : decode b_G_begin 23 = .ok (.iconst 0, 1) := by decide +kernel
theorem d_G_begin_24 : decode b_G_begin 24 = .ok (.ireturn, 1) := by decide +kernel
theorem d_G_begin_25 : decode b_G_begin 25 = .ok (.aload_n 0, 1) := by decide +kernel
theorem d_G_begin_26 : decode b_G_begin 26 = .ok (.dup, 1) := by decide +kernel
theorem d_G_begin_27 : decode b_G_begin 27 = .ok (.getfield 31, 3) := by decide +kernel
theorem d_G_begin_30 : decode b_G_begin 30 = .ok (.iconst 1, 1) := by decide +kernel
theorem d_G_begin_31 : decode b_G_begin 31 = .ok (.iadd, 1) := by decide +kernel
theorem d_G_begin_32 : decode b_G_begin 32 = .ok (.putfield 31, 3) := by decide +kernel
theorem d_G_begin_35 : decode b_G_begin 35 = .ok (.aload_n 0, 1) := by decide +kernel
theorem d_G_begin_36 : decode b_G_begin 36 = .ok (.aload_n 0, 1) := by decide +kernel
theorem d_G_begin_37 : decode b_G_begin 37 = .ok (.getfield 25, 3) := by decide +kernel
theorem d_G_begin_40 : decode b_G_begin 40 = .ok (.getfield 158, 3) := by decide +kernel
theorem d_G_begin_43 : decode b_G_begin 43 = .ok (.putfield 47, 3) := by decide +kernel
theorem d_G_begin_46 : decode b_G_begin 46 = .ok (.aload_n 0, 1) := by decide +kernel
theorem d_G_begin_47 : decode b_G_begin 47 = .ok (.aload_n 0, 1) := by decide +kernel
theorem d_G_begin_48 : decode b_G_begin 48 = .ok (.getfield 25, 3) := by decide +kernel
theorem d_G_begin_51 : decode b_G_begin 51 = .ok (.invokevirtual 106, 3) := by decide +kernel
theorem d_G_begin_54 : decode b_G_begin 54 = .ok (.ireturn, 1) := by decide +kernel
theorem d_G_expect_0 : decode b_G_expect 0 = .ok (.aload_n 1, 1) := by decide +kernel
theorem d_G_expect_1 : decode b_G_expect 1 = .ok (.invokevirtual 93, 3) := by decide +kernel
theorem d_G_expect_4 : decode b_G_expect 4 = .ok (.iconst 1, 1) := by decide +kernel
theorem d_G_expect_5 : decode b_G_expect 5 = .ok (.isub, 1) := by decide +kernel
theorem d_G_expect_6 : decode b_G_expect 6 = .ok (.istore_n 2, 1) := by decide +kernel
theorem d_G_expect_7 : decode b_G_expect 7 = .ok (.iload_n 2, 1) := by decide +kernel
theorem d_G_expect_8 : decode b_G_expect 8 = .ok (.ifCond .lt 45, 3) := by decide +kernel
theorem d_G_expect_11 : decode b_G_expect 11 = .ok (.aload_n 0, 1) := by decide +kernel
theorem d_G_expect_12 : decode b_G_expect 12 = .ok (.getfield 50, 3) := by decide +kernel
theorem d_G_expect_15 : decode b_G_expect 15 = .ok (.aload_n 0, 1) := by decide +kernel
theorem d_G_expect_16 : decode b_G_expect 16 = .ok (.getfield 15, 3) := by decide +kernel
theorem d_G_expect_19 : decode b_G_expect 19 = .ok (.arraylength, 1) := by decide +kernel
theorem d_G_expect_20 : decode b_G_expect 20 = .ok (.if_icmp .ge 27, 3) := by decide +kernel
theorem d_G_expect_23 : decode b_G_expect 23 = .ok (.aload_n 0, 1) := by decide +kernel
theorem d_G_expect_24 : decode b_G_expect 24 = .ok (.getfield 15, 3) := by decide +kernel
theorem d_G_expect_27 : decode b_G_expect 27 = .ok (.aload_n 0, 1) := by decide +kernel
theorem d_G_expect_28 : decode b_G_expect 28 = .ok (.getfield 50, 3) := by decide +kernel
theorem d_G_expect_31 : decode b_G_expect 31 = .ok (.aload_n 1, 1) := by decide +kernel
theorem d_G_expect_32 : decode b_G_expect 32 = .ok (.iload_n 2, 1) := by decide +kernel
theorem d_G_expect_33 : decode b_G_expect 33 = .ok (.invokevirtual 99, 3) := by decide +kernel
theorem d_G_expect_36 : decode b_G_expect 36 = .ok (.castore, 1) := by decide +kernel
theorem d_G_expect_37 : decode b_G_expect 37 = .ok (.aload_n 0, 1) := by decide +kernel
theorem d_G_expect_38 : decode b_G_expect 38 = .ok (.dup, 1) := by decide +kernel
theorem d_G_expect_39 : decode b_G_expect 39 = .ok (.getfield 50, 3) := by decide +kernel
theorem d_G_expect_42 : decode b_G_expect 42 = .ok (.iconst 1, 1) := by decide +kernel
theorem d_G_expect_43 : decode b_G_expect 43 = .ok (.iadd, 1) := by decide +kernel
theorem d_G_expect_44 : decode b_G_expect 44 = .ok (.putfield 50, 3) := by decide +kernel
theorem d_G_expect_47 : decode b_G_expect 47 = .ok (.iinc 2 (-1), 3) := by decide +kernel
theorem d_G_expect_50 : decode b_G_expect 50 = .ok (.goto (-43), 3) := by decide +kernel
theorem d_G_expect_53 : decode b_G_expect 53 = .ok (.return_, 1) := by decide +kernel
theorem d_G_follow_0 : decode b_G_follow 0 = .ok (.aload_n 0, 1) := by decide +kernel
theorem d_G_follow_1 : decode b_G_follow 1 = .ok (.aload_n 1, 1) := by decide +kernel
theorem d_G_follow_2 : decode b_G_follow 2 = .ok (.getfield 151, 3) := by decide +kernel
theorem d_G_follow_5 : decode b_G_follow 5 = .ok (.invokevirtual 61, 3) := by decide +kernel
theorem d_G_follow_8 : decode b_G_follow 8 = .ok (.aload_n 0, 1) := by decide +kernel
theorem d_G_follow_9 : decode b_G_follow 9 = .ok (.invokevirtual 56, 3) := by decide +kernel
theorem d_G_follow_12 : decode b_G_follow 12 = .ok (.iconst 1, 1) := by decide +kernel
theorem d_G_follow_13 : decode b_G_follow 13 = .ok (.ireturn, 1) := by decide +kernel
theorem d_G_init_0 : decode b_G_init 0 = .ok (.aload_n 0, 1) := by decide +kernel
theorem d_G_init_1 : decode b_G_init 1 = .ok (.invokespecial 3, 3) := by decide +kernel
theorem d_G_init_4 : decode b_G_init 4 = .ok (.aload_n 0, 1) := by decide +kernel
theorem d_G_init_5 : decode b_G_init 5 = .ok (.aload_n 1, 1) := by decide +kernel
theorem d_G_init_6 : decode b_G_init 6 = .ok (.putfield 9, 3) := by decide +kernel
theorem d_G_init_9 : decode b_G_init 9 = .ok (.aload_n 0, 1) := by decide +kernel
theorem d_G_init_10 : decode b_G_init 10 = .ok (.sipush 200, 3) := by decide +kernel
theorem d_G_init_13 : decode b_G_init 13 = .ok (.newarray .char, 2) := by decide +kernel
theorem d_G_init_15 : decode b_G_init 15 = .ok (.putfield 15, 3) := by decide +kernel
theorem d_G_init_18 : decode b_G_init 18 = .ok (.aload_n 0, 1) := by decide +kernel
theorem d_G_init_19 : decode b_G_init 19 = .ok (.getstatic 19, 3) := by decide +kernel
theorem d_G_init_22 : decode b_G_init 22 = .ok (.putfield 25, 3) := by decide +kernel
theorem d_G_init_25 : decode b_G_init 25 = .ok (.aload_n 0, 1) := by decide +kernel
theorem d_G_init_26 : decode b_G_init 26 = .ok (.getstatic 19, 3) := by decide +kernel
theorem d_G_init_29 : decode b_G_init 29 = .ok (.putfield 28, 3) := by decide +kernel
theorem d_G_init_32 : decode b_G_init 32 = .ok (.return_, 1) := by decide +kernel
theorem d_G_lacks_0 : decode b_G_lacks 0 = .ok (.aload_n 0, 1) := by decide +kernel
theorem d_G_lacks_1 : decode b_G_lacks 1 = .ok (.getfield 38, 3) := by decide +kernel
theorem d_G_lacks_4 : decode b_G_lacks 4 = .ok (.iload_n 1, 1) := by decide +kernel
theorem d_G_lacks_5 : decode b_G_lacks 5 = .ok (.iand, 1) := by decide +kernel
theorem d_G_lacks_6 : decode b_G_lacks 6 = .ok (.iload_n 1, 1) := by decide +kernel
theorem d_G_lacks_7 : decode b_G_lacks 7 = .ok (.if_icmp .eq 7, 3) := by decide +kernel
theorem d_G_lacks_10 : decode b_G_lacks 10 = .ok (.iconst 1, 1) := by decide +kernel
theorem d_G_lacks_11 : decode b_G_lacks 11 = .ok (.goto 4, 3) := by decide +kernel
theorem d_G_lacks_14 : decode b_G_lacks 14 = .ok (.iconst 0, 1) := by decide +kernel
theorem d_G_lacks_15 : decode b_G_lacks 15 = .ok (.ireturn, 1) := by decide +kernel
theorem d_G_reads_0 : decode b_G_reads 0 = .ok (.aload_n 0, 1) := by decide +kernel
theorem d_G_reads_1 : decode b_G_reads 1 = .ok (.iconst 0, 1) := by decide +kernel
theorem d_G_reads_2 : decode b_G_reads 2 = .ok (.putfield 31, 3) := by decide +kernel
theorem d_G_reads_5 : decode b_G_reads 5 = .ok (.aload_n 0, 1) := by decide +kernel
theorem d_G_reads_6 : decode b_G_reads 6 = .ok (.iconst 0, 1) := by decide +kernel
theorem d_G_reads_7 : decode b_G_reads 7 = .ok (.putfield 35, 3) := by decide +kernel
theorem d_G_reads_10 : decode b_G_reads 10 = .ok (.aload_n 0, 1) := by decide +kernel
theorem d_G_reads_11 : decode b_G_reads 11 = .ok (.iconst 0, 1) := by decide +kernel
theorem d_G_reads_12 : decode b_G_reads 12 = .ok (.putfield 38, 3) := by decide +kernel
theorem d_G_reads_15 : decode b_G_reads 15 = .ok (.aload_n 0, 1) := by decide +kernel
theorem d_G_reads_16 : decode b_G_reads 16 = .ok (.iconst 0, 1) := by decide +kernel
theorem d_G_reads_17 : decode b_G_reads 17 = .ok (.putfield 41, 3) := by decide +kernel
theorem d_G_reads_20 : decode b_G_reads 20 = .ok (.aload_n 0, 1) := by decide +kernel
theorem d_G_reads_21 : decode b_G_reads 21 = .ok (.iconst 0, 1) := by decide +kernel
theorem d_G_reads_22 : decode b_G_reads 22 = .ok (.putfield 44, 3) := by decide +kernel
theorem d_G_reads_25 : decode b_G_reads 25 = .ok (.aload_n 0, 1) := by decide +kernel
theorem d_G_reads_26 : decode b_G_reads 26 = .ok (.iconst 0, 1) := by decide +kernel
theorem d_G_reads_27 : decode b_G_reads 27 = .ok (.putfield 47, 3) := by decide +kernel
theorem d_G_reads_30 : decode b_G_reads 30 = .ok (.aload_n 0, 1) := by decide +kernel
theorem d_G_reads_31 : decode b_G_reads 31 = .ok (.iconst 0, 1) := by decide +kernel
theorem d_G_reads_32 : decode b_G_reads 32 = .ok (.putfield 50, 3) := by decide +kernel
theorem d_G_reads_35 : decode b_G_reads 35 = .ok (.aload_n 0, 1) := by decide +kernel
theorem d_G_reads_36 : decode b_G_reads 36 = .ok (.iconst (-1), 1) := by decide +kernel
theorem d_G_reads_37 : decode b_G_reads 37 = .ok (.putfield 53, 3) := by decide +kernel
theorem d_G_reads_40 : decode b_G_reads 40 = .ok (.aload_n 0, 1) := by decide +kernel
theorem d_G_reads_41 : decode b_G_reads 41 = .ok (.invokevirtual 56, 3) := by decide +kernel
theorem d_G_reads_44 : decode b_G_reads 44 = .ok (.aload_n 0, 1) := by decide +kernel
theorem d_G_reads_45 : decode b_G_reads 45 = .ok (.ldc 59, 2) := by decide +kernel
theorem d_G_reads_47 : decode b_G_reads 47 = .ok (.invokevirtual 61, 3) := by decide +kernel
theorem d_G_reads_50 : decode b_G_reads 50 = .ok (.iconst 0, 1) := by decide +kernel
theorem d_G_reads_51 : decode b_G_reads 51 = .ok (.istore_n 1, 1) := by decide +kernel
theorem d_G_reads_52 : decode b_G_reads 52 = .ok (.iload_n 1, 1) := by decide +kernel
theorem d_G_reads_53 : decode b_G_reads 53 = .ok (.sipush 10000, 3) := by decide +kernel
theorem d_G_reads_56 : decode b_G_reads 56 = .ok (.if_icmp .ge 44, 3) := by decide +kernel
theorem d_G_reads_59 : decode b_G_reads 59 = .ok (.aload_n 0, 1) := by decide +kernel
theorem d_G_reads_60 : decode b_G_reads 60 = .ok (.getfield 50, 3) := by decide +kernel
theorem d_G_reads_63 : decode b_G_reads 63 = .ok (.ifCond .le 37, 3) := by decide +kernel
theorem d_G_reads_66 : decode b_G_reads 66 = .ok (.aload_n 0, 1) := by decide +kernel
theorem d_G_reads_67 : decode b_G_reads 67 = .ok (.dup, 1) := by decide +kernel
theorem d_G_reads_68 : decode b_G_reads 68 = .ok (.getfield 50, 3) := by decide +kernel
theorem d_G_reads_71 : decode b_G_reads 71 = .ok (.iconst 1, 1) := by decide +kernel
theorem d_G_reads_72 : decode b_G_reads 72 = .ok (.isub, 1) := by decide +kernel
theorem d_G_reads_73 : decode b_G_reads 73 = .ok (.putfield 50, 3) := by decide +kernel
theorem d_G_reads_76 : decode b_G_reads 76 = .ok (.aload_n 0, 1) := by decide +kernel
theorem d_G_reads_77 : decode b_G_reads 77 = .ok (.aload_n 0, 1) := by decide +kernel
theorem d_G_reads_78 : decode b_G_reads 78 = .ok (.getfield 15, 3) := by decide +kernel
theorem d_G_reads_81 : decode b_G_reads 81 = .ok (.aload_n 0, 1) := by decide +kernel
theorem d_G_reads_82 : decode b_G_reads 82 = .ok (.getfield 50, 3) := by decide +kernel
theorem d_G_reads_85 : decode b_G_reads 85 = .ok (.caload, 1) := by decide +kernel
theorem d_G_reads_86 : decode b_G_reads 86 = .ok (.invokevirtual 65, 3) := by decide +kernel
theorem d_G_reads_89 : decode b_G_reads 89 = .ok (.ifCond .ne 5, 3) := by decide +kernel
theorem d_G_reads_92 : decode b_G_reads 92 = .ok (.iconst 0, 1) := by decide +kernel
theorem d_G_reads_93 : decode b_G_reads 93 = .ok (.ireturn, 1) := by decide +kernel
theorem d_G_reads_94 : decode b_G_reads 94 = .ok (.iinc 1 1, 3) := by decide +kernel
theorem d_G_reads_97 : decode b_G_reads 97 = .ok (.goto (-45), 3) := by decide +kernel
theorem d_G_reads_100 : decode b_G_reads 100 = .ok (.aload_n 0, 1) := by decide +kernel
theorem d_G_reads_101 : decode b_G_reads 101 = .ok (.getfield 50, 3) := by decide +kernel
theorem d_G_reads_104 : decode b_G_reads 104 = .ok (.ifCond .ne 7, 3) := by decide +kernel
theorem d_G_reads_107 : decode b_G_reads 107 = .ok (.iconst 1, 1) := by decide +kernel
theorem d_G_reads_108 : decode b_G_reads 108 = .ok (.goto 4, 3) := by decide +kernel
theorem d_G_reads_111 : decode b_G_reads 111 = .ok (.iconst 0, 1) := by decide +kernel
theorem d_G_reads_112 : decode b_G_reads 112 = .ok (.ireturn, 1) := by decide +kernel
theorem d_G_standsAt_0 : decode b_G_standsAt 0 = .ok (.aload_n 0, 1) := by decide +kernel
theorem d_G_standsAt_1 : decode b_G_standsAt 1 = .ok (.getfield 53, 3) := by decide +kernel
theorem d_G_standsAt_4 : decode b_G_standsAt 4 = .ok (.ifCond .lt 28, 3) := by decide +kernel
theorem d_G_standsAt_7 : decode b_G_standsAt 7 = .ok (.aload_n 0, 1) := by decide +kernel
theorem d_G_standsAt_8 : decode b_G_standsAt 8 = .ok (.getfield 53, 3) := by decide +kernel
theorem d_G_standsAt_11 : decode b_G_standsAt 11 = .ok (.sipush 401, 3) := by decide +kernel
theorem d_G_standsAt_14 : decode b_G_standsAt 14 = .ok (.if_icmp .ge 18, 3) := by decide +kernel
theorem d_G_standsAt_17 : decode b_G_standsAt 17 = .ok (.aload_n 0, 1) := by decide +kernel
theorem d_G_standsAt_18 : decode b_G_standsAt 18 = .ok (.getfield 9, 3) := by decide +kernel
theorem d_G_standsAt_21 : decode b_G_standsAt 21 = .ok (.getfield 69, 3) := by decide +kernel
theorem d_G_standsAt_24 : decode b_G_standsAt 24 = .ok (.aload_n 0, 1) := by decide +kernel
theorem d_G_standsAt_25 : decode b_G_standsAt 25 = .ok (.getfield 53, 3) := by decide +kernel
theorem d_G_standsAt_28 : decode b_G_standsAt 28 = .ok (.iaload, 1) := by decide +kernel
theorem d_G_standsAt_29 : decode b_G_standsAt 29 = .ok (.goto 4, 3) := by decide +kernel
theorem d_G_standsAt_32 : decode b_G_standsAt 32 = .ok (.iconst 0, 1) := by decide +kernel
theorem d_G_standsAt_33 : decode b_G_standsAt 33 = .ok (.ireturn, 1) := by decide +kernel
theorem d_G_take_0 : decode b_G_take 0 = .ok (.iload_n 1, 1) := by decide +kernel
theorem d_G_take_1 : decode b_G_take 1 = .ok (.tableswitch 532 46 118 #[518, 532, 532, 532, 532, 532, 532, 532, 532, 532, 532, 532, 532, 532, 532, 532, 532, 532, 532, 532, 532, 532, 532, 532, 532, 532, 532, 532, 532, 532, 532, 532, 532, 532, 532, 532, 532, 532, 532, 532, 532, 532, 532, 532, 532, 532, 532, 532, 532, 532, 532, 494, 532, 334, 403, 361, 486, 398, 532, 532, 532, 462, 502, 356, 440, 454, 532, 307, 510, 446, 339, 532, 344], 307) := by decide +kernel
theorem d_G_take_308 : decode b_G_take 308 = .ok (.aload_n 0, 1) := by decide +kernel
theorem d_G_take_309 : decode b_G_take 309 = .ok (.getfield 25, 3) := by decide +kernel
theorem d_G_take_312 : decode b_G_take 312 = .ok (.getstatic 103, 3) := by decide +kernel
theorem d_G_take_315 : decode b_G_take 315 = .ok (.if_acmp .ne 14, 3) := by decide +kernel
theorem d_G_take_318 : decode b_G_take 318 = .ok (.aload_n 0, 1) := by decide +kernel
theorem d_G_take_319 : decode b_G_take 319 = .ok (.aload_n 0, 1) := by decide +kernel
theorem d_G_take_320 : decode b_G_take 320 = .ok (.getfield 25, 3) := by decide +kernel
theorem d_G_take_323 : decode b_G_take 323 = .ok (.invokevirtual 106, 3) := by decide +kernel
theorem d_G_take_326 : decode b_G_take 326 = .ok (.ifCond .eq 7, 3) := by decide +kernel
theorem d_G_take_329 : decode b_G_take 329 = .ok (.iconst 1, 1) := by decide +kernel
theorem d_G_take_330 : decode b_G_take 330 = .ok (.goto 4, 3) := by decide +kernel
theorem d_G_take_333 : decode b_G_take 333 = .ok (.iconst 0, 1) := by decide +kernel
theorem d_G_take_334 : decode b_G_take 334 = .ok (.ireturn, 1) := by decide +kernel
theorem d_G_take_335 : decode b_G_take 335 = .ok (.aload_n 0, 1) := by decide +kernel
theorem d_G_take_336 : decode b_G_take 336 = .ok (.invokevirtual 110, 3) := by decide +kernel
theorem d_G_take_339 : decode b_G_take 339 = .ok (.ireturn, 1) := by decide +kernel
theorem d_G_take_340 : decode b_G_take 340 = .ok (.aload_n 0, 1) := by decide +kernel
theorem d_G_take_341 : decode b_G_take 341 = .ok (.invokevirtual 114, 3) := by decide +kernel
theorem d_G_take_344 : decode b_G_take 344 = .ok (.ireturn, 1) := by decide +kernel
theorem d_G_take_345 : decode b_G_take 345 = .ok (.aload_n 0, 1) := by decide +kernel
theorem d_G_take_346 : decode b_G_take 346 = .ok (.dup, 1) := by decide +kernel
theorem d_G_take_347 : decode b_G_take 347 = .ok (.getfield 44, 3) := by decide +kernel
theorem d_G_take_350 : decode b_G_take 350 = .ok (.iconst 1, 1) := by decide +kernel
theorem d_G_take_351 : decode b_G_take 351 = .ok (.isub, 1) := by decide +kernel
theorem d_G_take_352 : decode b_G_take 352 = .ok (.putfield 44, 3) := by decide +kernel
theorem d_G_take_355 : decode b_G_take 355 = .ok (.iconst 1, 1) := by decide +kernel
theorem d_G_take_356 : decode b_G_take 356 = .ok (.ireturn, 1) := by decide +kernel
theorem d_G_take_357 : decode b_G_take 357 = .ok (.aload_n 0, 1) := by decide +kernel
theorem d_G_take_358 : decode b_G_take 358 = .ok (.invokevirtual 117, 3) := by decide +kernel
theorem d_G_take_361 : decode b_G_take 361 = .ok (.ireturn, 1) := by decide +kernel
theorem d_G_take_362 : decode b_G_take 362 = .ok (.aload_n 0, 1) := by decide +kernel
theorem d_G_take_363 : decode b_G_take 363 = .ok (.getfield 25, 3) := by decide +kernel
theorem d_G_take_366 : decode b_G_take 366 = .ok (.getstatic 120, 3) := by decide +kernel
theorem d_G_take_369 : decode b_G_take 369 = .ok (.if_acmp .eq 13, 3) := by decide +kernel
theorem d_G_take_372 : decode b_G_take 372 = .ok (.aload_n 0, 1) := by decide +kernel
theorem d_G_take_373 : decode b_G_take 373 = .ok (.getfield 25, 3) := by decide +kernel
theorem d_G_take_376 : decode b_G_take 376 = .ok (.getstatic 123, 3) := by decide +kernel
theorem d_G_take_379 : decode b_G_take 379 = .ok (.if_acmp .ne 14, 3) := by decide +kernel
theorem d_G_take_382 : decode b_G_take 382 = .ok (.aload_n 0, 1) := by decide +kernel
theorem d_G_take_383 : decode b_G_take 383 = .ok (.aload_n 0, 1) := by decide +kernel
theorem d_G_take_384 : decode b_G_take 384 = .ok (.getfield 25, 3) := by decide +kernel
theorem d_G_take_387 : decode b_G_take 387 = .ok (.invokevirtual 106, 3) := by decide +kernel
theorem d_G_take_390 : decode b_G_take 390 = .ok (.ifCond .eq 7, 3) := by decide +kernel
theorem d_G_take_393 : decode b_G_take 393 = .ok (.iconst 1, 1) := by decide +kernel
theorem d_G_take_394 : decode b_G_take 394 = .ok (.goto 4, 3) := by decide +kernel
theorem d_G_take_397 : decode b_G_take 397 = .ok (.iconst 0, 1) := by decide +kernel
theorem d_G_take_398 : decode b_G_take 398 = .ok (.ireturn, 1) := by decide +kernel
theorem d_G_take_399 : decode b_G_take 399 = .ok (.aload_n 0, 1) := by decide +kernel
theorem d_G_take_400 : decode b_G_take 400 = .ok (.invokevirtual 126, 3) := by decide +kernel
theorem d_G_take_403 : decode b_G_take 403 = .ok (.ireturn, 1) := by decide +kernel
theorem d_G_take_404 : decode b_G_take 404 = .ok (.aload_n 0, 1) := by decide +kernel
theorem d_G_take_405 : decode b_G_take 405 = .ok (.getfield 28, 3) := by decide +kernel
theorem d_G_take_408 : decode b_G_take 408 = .ok (.getstatic 129, 3) := by decide +kernel
theorem d_G_take_411 : decode b_G_take 411 = .ok (.if_acmp .eq 13, 3) := by decide +kernel
theorem d_G_take_414 : decode b_G_take 414 = .ok (.aload_n 0, 1) := by decide +kernel
theorem d_G_take_415 : decode b_G_take 415 = .ok (.getfield 28, 3) := by decide +kernel
theorem d_G_take_418 : decode b_G_take 418 = .ok (.getstatic 132, 3) := by decide +kernel
theorem d_G_take_421 : decode b_G_take 421 = .ok (.if_acmp .ne 18, 3) := by decide +kernel
theorem d_G_take_424 : decode b_G_take 424 = .ok (.aload_n 0, 1) := by decide +kernel
theorem d_G_take_425 : decode b_G_take 425 = .ok (.aload_n 0, 1) := by decide +kernel
theorem d_G_take_426 : decode b_G_take 426 = .ok (.getfield 28, 3) := by decide +kernel
theorem d_G_take_429 : decode b_G_take 429 = .ok (.invokevirtual 106, 3) := by decide +kernel
theorem d_G_take_432 : decode b_G_take 432 = .ok (.ifCond .eq 7, 3) := by decide +kernel
theorem d_G_take_435 : decode b_G_take 435 = .ok (.iconst 1, 1) := by decide +kernel
theorem d_G_take_436 : decode b_G_take 436 = .ok (.goto 4, 3) := by decide +kernel
theorem d_G_take_439 : decode b_G_take 439 = .ok (.iconst 0, 1) := by decide +kernel
theorem d_G_take_440 : decode b_G_take 440 = .ok (.ireturn, 1) := by decide +kernel
theorem d_G_take_441 : decode b_G_take 441 = .ok (.aload_n 0, 1) := by decide +kernel
theorem d_G_take_442 : decode b_G_take 442 = .ok (.iconst 3, 1) := by decide +kernel
theorem d_G_take_443 : decode b_G_take 443 = .ok (.invokevirtual 135, 3) := by decide +kernel
theorem d_G_take_446 : decode b_G_take 446 = .ok (.ireturn, 1) := by decide +kernel
theorem d_G_take_447 : decode b_G_take 447 = .ok (.aload_n 0, 1) := by decide +kernel
theorem d_G_take_448 : decode b_G_take 448 = .ok (.sipush 256, 3) := by decide +kernel
theorem d_G_take_451 : decode b_G_take 451 = .ok (.invokevirtual 139, 3) := by decide +kernel
theorem d_G_take_454 : decode b_G_take 454 = .ok (.ireturn, 1) := by decide +kernel
theorem d_G_take_455 : decode b_G_take 455 = .ok (.aload_n 0, 1) := by decide +kernel
theorem d_G_take_456 : decode b_G_take 456 = .ok (.sipush 512, 3) := by decide +kernel
theorem d_G_take_459 : decode b_G_take 459 = .ok (.invokevirtual 139, 3) := by decide +kernel
theorem d_G_take_462 : decode b_G_take 462 = .ok (.ireturn, 1) := by decide +kernel
theorem d_G_take_463 : decode b_G_take 463 = .ok (.aload_n 0, 1) := by decide +kernel
theorem d_G_take_464 : decode b_G_take 464 = .ok (.aload_n 0, 1) := by decide +kernel
theorem d_G_take_465 : decode b_G_take 465 = .ok (.sipush 128, 3) := by decide +kernel
theorem d_G_take_468 : decode b_G_take 468 = .ok (.invokevirtual 142, 3) := by decide +kernel
theorem d_G_take_471 : decode b_G_take 471 = .ok (.ifCond .eq 9, 3) := by decide +kernel
theorem d_G_take_474 : decode b_G_take 474 = .ok (.sipush 1024, 3) := by decide +kernel
theorem d_G_take_477 : decode b_G_take 477 = .ok (.goto 6, 3) := by decide +kernel
theorem d_G_take_480 : decode b_G_take 480 = .ok (.sipush 3072, 3) := by decide +kernel
theorem d_G_take_483 : decode b_G_take 483 = .ok (.invokevirtual 139, 3) := by decide +kernel
theorem d_G_take_486 : decode b_G_take 486 = .ok (.ireturn, 1) := by decide +kernel
theorem d_G_take_487 : decode b_G_take 487 = .ok (.aload_n 0, 1) := by decide +kernel
theorem d_G_take_488 : decode b_G_take 488 = .ok (.sipush 4096, 3) := by decide +kernel
theorem d_G_take_491 : decode b_G_take 491 = .ok (.invokevirtual 139, 3) := by decide +kernel
theorem d_G_take_494 : decode b_G_take 494 = .ok (.ireturn, 1) := by decide +kernel
theorem d_G_take_495 : decode b_G_take 495 = .ok (.aload_n 0, 1) := by decide +kernel
theorem d_G_take_496 : decode b_G_take 496 = .ok (.sipush 8192, 3) := by decide +kernel
theorem d_G_take_499 : decode b_G_take 499 = .ok (.invokevirtual 139, 3) := by decide +kernel
theorem d_G_take_502 : decode b_G_take 502 = .ok (.ireturn, 1) := by decide +kernel
theorem d_G_take_503 : decode b_G_take 503 = .ok (.aload_n 0, 1) := by decide +kernel
theorem d_G_take_504 : decode b_G_take 504 = .ok (.sipush 256, 3) := by decide +kernel
theorem d_G_take_507 : decode b_G_take 507 = .ok (.invokevirtual 145, 3) := by decide +kernel
theorem d_G_take_510 : decode b_G_take 510 = .ok (.ireturn, 1) := by decide +kernel
theorem d_G_take_511 : decode b_G_take 511 = .ok (.aload_n 0, 1) := by decide +kernel
theorem d_G_take_512 : decode b_G_take 512 = .ok (.sipush 255, 3) := by decide +kernel
theorem d_G_take_515 : decode b_G_take 515 = .ok (.invokevirtual 145, 3) := by decide +kernel
theorem d_G_take_518 : decode b_G_take 518 = .ok (.ireturn, 1) := by decide +kernel
theorem d_G_take_519 : decode b_G_take 519 = .ok (.aload_n 0, 1) := by decide +kernel
theorem d_G_take_520 : decode b_G_take 520 = .ok (.getfield 81, 3) := by decide +kernel
theorem d_G_take_523 : decode b_G_take 523 = .ok (.iconst 5, 1) := by decide +kernel
theorem d_G_take_524 : decode b_G_take 524 = .ok (.if_icmp .ne 7, 3) := by decide +kernel
theorem d_G_take_527 : decode b_G_take 527 = .ok (.iconst 1, 1) := by decide +kernel
theorem d_G_take_528 : decode b_G_take 528 = .ok (.goto 4, 3) := by decide +kernel
theorem d_G_take_531 : decode b_G_take 531 = .ok (.iconst 0, 1) := by decide +kernel
theorem d_G_take_532 : decode b_G_take 532 = .ok (.ireturn, 1) := by decide +kernel
theorem d_G_take_533 : decode b_G_take 533 = .ok (.aload_n 0, 1) := by decide +kernel
theorem d_G_take_534 : decode b_G_take 534 = .ok (.iload_n 1, 1) := by decide +kernel
theorem d_G_take_535 : decode b_G_take 535 = .ok (.invokevirtual 148, 3) := by decide +kernel
theorem d_G_take_538 : decode b_G_take 538 = .ok (.ireturn, 1) := by decide +kernel
theorem d_G_takeCommands_0 : decode b_G_takeCommands 0 = .ok (.aload_n 0, 1) := by decide +kernel
theorem d_G_takeCommands_1 : decode b_G_takeCommands 1 = .ok (.getfield 25, 3) := by decide +kernel
theorem d_G_takeCommands_4 : decode b_G_takeCommands 4 = .ok (.getfield 161, 3) := by decide +kernel
theorem d_G_takeCommands_7 : decode b_G_takeCommands 7 = .ok (.iconst 1, 1) := by decide +kernel
theorem d_G_takeCommands_8 : decode b_G_takeCommands 8 = .ok (.if_icmp .eq 5, 3) := by decide +kernel
theorem d_G_takeCommands_11 : decode b_G_takeCommands 11 = .ok (.iconst 1, 1) := by decide +kernel
theorem d_G_takeCommands_12 : decode b_G_takeCommands 12 = .ok (.ireturn, 1) := by decide +kernel
theorem d_G_takeCommands_13 : decode b_G_takeCommands 13 = .ok (.aload_n 0, 1) := by decide +kernel
theorem d_G_takeCommands_14 : decode b_G_takeCommands 14 = .ok (.getfield 25, 3) := by decide +kernel
theorem d_G_takeCommands_17 : decode b_G_takeCommands 17 = .ok (.getstatic 164, 3) := by decide +kernel
theorem d_G_takeCommands_20 : decode b_G_takeCommands 20 = .ok (.if_acmp .ne 14, 3) := by decide +kernel
theorem d_G_takeCommands_23 : decode b_G_takeCommands 23 = .ok (.aload_n 0, 1) := by decide +kernel
theorem d_G_takeCommands_24 : decode b_G_takeCommands 24 = .ok (.getfield 41, 3) := by decide +kernel
theorem d_G_takeCommands_27 : decode b_G_takeCommands 27 = .ok (.bipush 8, 2) := by decide +kernel
theorem d_G_takeCommands_29 : decode b_G_takeCommands 29 = .ok (.if_icmp .lt 5, 3) := by decide +kernel
theorem d_G_takeCommands_32 : decode b_G_takeCommands 32 = .ok (.iconst 0, 1) := by decide +kernel
theorem d_G_takeCommands_33 : decode b_G_takeCommands 33 = .ok (.ireturn, 1) := by decide +kernel
theorem d_G_takeCommands_34 : decode b_G_takeCommands 34 = .ok (.aload_n 0, 1) := by decide +kernel
theorem d_G_takeCommands_35 : decode b_G_takeCommands 35 = .ok (.ldc 167, 2) := by decide +kernel
theorem d_G_takeCommands_37 : decode b_G_takeCommands 37 = .ok (.invokevirtual 61, 3) := by decide +kernel
theorem d_G_takeCommands_40 : decode b_G_takeCommands 40 = .ok (.aload_n 0, 1) := by decide +kernel
theorem d_G_takeCommands_41 : decode b_G_takeCommands 41 = .ok (.invokevirtual 169, 3) := by decide +kernel
theorem d_G_takeCommands_44 : decode b_G_takeCommands 44 = .ok (.ireturn, 1) := by decide +kernel
theorem d_G_takeKind_0 : decode b_G_takeKind 0 = .ok (.aload_n 0, 1) := by decide +kernel
theorem d_G_takeKind_1 : decode b_G_takeKind 1 = .ok (.getfield 81, 3) := by decide +kernel
theorem d_G_takeKind_4 : decode b_G_takeKind 4 = .ok (.iload_n 1, 1) := by decide +kernel
theorem d_G_takeKind_5 : decode b_G_takeKind 5 = .ok (.if_icmp .eq 5, 3) := by decide +kernel
theorem d_G_takeKind_8 : decode b_G_takeKind 8 = .ok (.iconst 0, 1) := by decide +kernel
theorem d_G_takeKind_9 : decode b_G_takeKind 9 = .ok (.ireturn, 1) := by decide +kernel
theorem d_G_takeKind_10 : decode b_G_takeKind 10 = .ok (.aload_n 0, 1) := by decide +kernel
theorem d_G_takeKind_11 : decode b_G_takeKind 11 = .ok (.invokevirtual 56, 3) := by decide +kernel
theorem d_G_takeKind_14 : decode b_G_takeKind 14 = .ok (.iconst 1, 1) := by decide +kernel
theorem d_G_takeKind_15 : decode b_G_takeKind 15 = .ok (.ireturn, 1) := by decide +kernel
theorem d_G_takeMoreTests_0 : decode b_G_takeMoreTests 0 = .ok (.aload_n 0, 1) := by decide +kernel
theorem d_G_takeMoreTests_1 : decode b_G_takeMoreTests 1 = .ok (.getfield 81, 3) := by decide +kernel
theorem d_G_takeMoreTests_4 : decode b_G_takeMoreTests 4 = .ok (.bipush 44, 2) := by decide +kernel
theorem d_G_takeMoreTests_6 : decode b_G_takeMoreTests 6 = .ok (.if_icmp .eq 5, 3) := by decide +kernel
theorem d_G_takeMoreTests_9 : decode b_G_takeMoreTests 9 = .ok (.iconst 1, 1) := by decide +kernel
theorem d_G_takeMoreTests_10 : decode b_G_takeMoreTests 10 = .ok (.ireturn, 1) := by decide +kernel
theorem d_G_takeMoreTests_11 : decode b_G_takeMoreTests 11 = .ok (.aload_n 0, 1) := by decide +kernel
theorem d_G_takeMoreTests_12 : decode b_G_takeMoreTests 12 = .ok (.invokevirtual 56, 3) := by decide +kernel
theorem d_G_takeMoreTests_15 : decode b_G_takeMoreTests 15 = .ok (.aload_n 0, 1) := by decide +kernel
theorem d_G_takeMoreTests_16 : decode b_G_takeMoreTests 16 = .ok (.ldc 174, 2) := by decide +kernel
theorem d_G_takeMoreTests_18 : decode b_G_takeMoreTests 18 = .ok (.invokevirtual 61, 3) := by decide +kernel
theorem d_G_takeMoreTests_21 : decode b_G_takeMoreTests 21 = .ok (.iconst 1, 1) := by decide +kernel
theorem d_G_takeMoreTests_22 : decode b_G_takeMoreTests 22 = .ok (.ireturn, 1) := by decide +kernel
theorem d_G_takeSign_0 : decode b_G_takeSign 0 = .ok (.aload_n 0, 1) := by decide +kernel
theorem d_G_takeSign_1 : decode b_G_takeSign 1 = .ok (.iload_n 1, 1) := by decide +kernel
theorem d_G_takeSign_2 : decode b_G_takeSign 2 = .ok (.invokevirtual 135, 3) := by decide +kernel
theorem d_G_takeSign_5 : decode b_G_takeSign 5 = .ok (.ifCond .ne 5, 3) := by decide +kernel
theorem d_G_takeSign_8 : decode b_G_takeSign 8 = .ok (.iconst 0, 1) := by decide +kernel
theorem d_G_takeSign_9 : decode b_G_takeSign 9 = .ok (.ireturn, 1) := by decide +kernel
theorem d_G_takeSign_10 : decode b_G_takeSign 10 = .ok (.iload_n 1, 1) := by decide +kernel
theorem d_G_takeSign_11 : decode b_G_takeSign 11 = .ok (.bipush 123, 2) := by decide +kernel
theorem d_G_takeSign_13 : decode b_G_takeSign 13 = .ok (.if_icmp .ne 16, 3) := by decide +kernel
theorem d_G_takeSign_16 : decode b_G_takeSign 16 = .ok (.aload_n 0, 1) := by decide +kernel
theorem d_G_takeSign_17 : decode b_G_takeSign 17 = .ok (.dup, 1) := by decide +kernel
theorem d_G_takeSign_18 : decode b_G_takeSign 18 = .ok (.getfield 41, 3) := by decide +kernel
theorem d_G_takeSign_21 : decode b_G_takeSign 21 = .ok (.iconst 1, 1) := by decide +kernel
theorem d_G_takeSign_22 : decode b_G_takeSign 22 = .ok (.iadd, 1) := by decide +kernel
theorem d_G_takeSign_23 : decode b_G_takeSign 23 = .ok (.putfield 41, 3) := by decide +kernel
theorem d_G_takeSign_26 : decode b_G_takeSign 26 = .ok (.goto 19, 3) := by decide +kernel
theorem d_G_takeSign_29 : decode b_G_takeSign 29 = .ok (.iload_n 1, 1) := by decide +kernel
theorem d_G_takeSign_30 : decode b_G_takeSign 30 = .ok (.bipush 125, 2) := by decide +kernel
theorem d_G_takeSign_32 : decode b_G_takeSign 32 = .ok (.if_icmp .ne 13, 3) := by decide +kernel
theorem d_G_takeSign_35 : decode b_G_takeSign 35 = .ok (.aload_n 0, 1) := by decide +kernel
theorem d_G_takeSign_36 : decode b_G_takeSign 36 = .ok (.dup, 1) := by decide +kernel
theorem d_G_takeSign_37 : decode b_G_takeSign 37 = .ok (.getfield 41, 3) := by decide +kernel
theorem d_G_takeSign_40 : decode b_G_takeSign 40 = .ok (.iconst 1, 1) := by decide +kernel
theorem d_G_takeSign_41 : decode b_G_takeSign 41 = .ok (.isub, 1) := by decide +kernel
theorem d_G_takeSign_42 : decode b_G_takeSign 42 = .ok (.putfield 41, 3) := by decide +kernel
theorem d_G_takeSign_45 : decode b_G_takeSign 45 = .ok (.iconst 1, 1) := by decide +kernel
theorem d_G_takeSign_46 : decode b_G_takeSign 46 = .ok (.ireturn, 1) := by decide +kernel
theorem d_G_takeString_0 : decode b_G_takeString 0 = .ok (.aload_n 0, 1) := by decide +kernel
theorem d_G_takeString_1 : decode b_G_takeString 1 = .ok (.getfield 81, 3) := by decide +kernel
theorem d_G_takeString_4 : decode b_G_takeString 4 = .ok (.iconst 4, 1) := by decide +kernel
theorem d_G_takeString_5 : decode b_G_takeString 5 = .ok (.if_icmp .ne 12, 3) := by decide +kernel
theorem d_G_takeString_8 : decode b_G_takeString 8 = .ok (.aload_n 0, 1) := by decide +kernel
theorem d_G_takeString_9 : decode b_G_takeString 9 = .ok (.getfield 35, 3) := by decide +kernel
theorem d_G_takeString_12 : decode b_G_takeString 12 = .ok (.bipush 60, 2) := by decide +kernel
theorem d_G_takeString_14 : decode b_G_takeString 14 = .ok (.if_icmp .lt 5, 3) := by decide +kernel
theorem d_G_takeString_17 : decode b_G_takeString 17 = .ok (.iconst 0, 1) := by decide +kernel
theorem d_G_takeString_18 : decode b_G_takeString 18 = .ok (.ireturn, 1) := by decide +kernel
theorem d_G_takeString_19 : decode b_G_takeString 19 = .ok (.aload_n 0, 1) := by decide +kernel
theorem d_G_takeString_20 : decode b_G_takeString 20 = .ok (.dup, 1) := by decide +kernel
theorem d_G_takeString_21 : decode b_G_takeString 21 = .ok (.getfield 35, 3) := by decide +kernel
theorem d_G_takeString_24 : decode b_G_takeString 24 = .ok (.iconst 1, 1) := by decide +kernel
theorem d_G_takeString_25 : decode b_G_takeString 25 = .ok (.iadd, 1) := by decide +kernel
theorem d_G_takeString_26 : decode b_G_takeString 26 = .ok (.putfield 35, 3) := by decide +kernel
theorem d_G_takeString_29 : decode b_G_takeString 29 = .ok (.aload_n 0, 1) := by decide +kernel
theorem d_G_takeString_30 : decode b_G_takeString 30 = .ok (.getfield 91, 3) := by decide +kernel
theorem d_G_takeString_33 : decode b_G_takeString 33 = .ok (.iload_n 1, 1) := by decide +kernel
theorem d_G_takeString_34 : decode b_G_takeString 34 = .ok (.iand, 1) := by decide +kernel
theorem d_G_takeString_35 : decode b_G_takeString 35 = .ok (.ifCond .ne 5, 3) := by decide +kernel
theorem d_G_takeString_38 : decode b_G_takeString 38 = .ok (.iconst 0, 1) := by decide +kernel
theorem d_G_takeString_39 : decode b_G_takeString 39 = .ok (.ireturn, 1) := by decide +kernel
theorem d_G_takeString_40 : decode b_G_takeString 40 = .ok (.iload_n 1, 1) := by decide +kernel
theorem d_G_takeString_41 : decode b_G_takeString 41 = .ok (.sipush 255, 3) := by decide +kernel
theorem d_G_takeString_44 : decode b_G_takeString 44 = .ok (.if_icmp .ne 20, 3) := by decide +kernel
theorem d_G_takeString_47 : decode b_G_takeString 47 = .ok (.aload_n 0, 1) := by decide +kernel
theorem d_G_takeString_48 : decode b_G_takeString 48 = .ok (.dup, 1) := by decide +kernel
theorem d_G_takeString_49 : decode b_G_takeString 49 = .ok (.getfield 38, 3) := by decide +kernel
theorem d_G_takeString_52 : decode b_G_takeString 52 = .ok (.aload_n 0, 1) := by decide +kernel
theorem d_G_takeString_53 : decode b_G_takeString 53 = .ok (.getfield 91, 3) := by decide +kernel
theorem d_G_takeString_56 : decode b_G_takeString 56 = .ok (.sipush 255, 3) := by decide +kernel
theorem d_G_takeString_59 : decode b_G_takeString 59 = .ok (.iand, 1) := by decide +kernel
theorem d_G_takeString_60 : decode b_G_takeString 60 = .ok (.ior, 1) := by decide +kernel
theorem d_G_takeString_61 : decode b_G_takeString 61 = .ok (.putfield 38, 3) := by decide +kernel
theorem d_G_takeString_64 : decode b_G_takeString 64 = .ok (.aload_n 0, 1) := by decide +kernel
theorem d_G_takeString_65 : decode b_G_takeString 65 = .ok (.invokevirtual 56, 3) := by decide +kernel
theorem d_G_takeString_68 : decode b_G_takeString 68 = .ok (.iconst 1, 1) := by decide +kernel
theorem d_G_takeString_69 : decode b_G_takeString 69 = .ok (.ireturn, 1) := by decide +kernel
theorem d_G_takeStrings_0 : decode b_G_takeStrings 0 = .ok (.aload_n 0, 1) := by decide +kernel
theorem d_G_takeStrings_1 : decode b_G_takeStrings 1 = .ok (.getfield 81, 3) := by decide +kernel
theorem d_G_takeStrings_4 : decode b_G_takeStrings 4 = .ok (.bipush 91, 2) := by decide +kernel
theorem d_G_takeStrings_6 : decode b_G_takeStrings 6 = .ok (.if_icmp .eq 9, 3) := by decide +kernel
theorem d_G_takeStrings_9 : decode b_G_takeStrings 9 = .ok (.aload_n 0, 1) := by decide +kernel
theorem d_G_takeStrings_10 : decode b_G_takeStrings 10 = .ok (.iload_n 1, 1) := by decide +kernel
theorem d_G_takeStrings_11 : decode b_G_takeStrings 11 = .ok (.invokevirtual 139, 3) := by decide +kernel
theorem d_G_takeStrings_14 : decode b_G_takeStrings 14 = .ok (.ireturn, 1) := by decide +kernel
theorem d_G_takeStrings_15 : decode b_G_takeStrings 15 = .ok (.aload_n 0, 1) := by decide +kernel
theorem d_G_takeStrings_16 : decode b_G_takeStrings 16 = .ok (.invokevirtual 56, 3) := by decide +kernel
theorem d_G_takeStrings_19 : decode b_G_takeStrings 19 = .ok (.iconst 0, 1) := by decide +kernel
theorem d_G_takeStrings_20 : decode b_G_takeStrings 20 = .ok (.istore_n 2, 1) := by decide +kernel
theorem d_G_takeStrings_21 : decode b_G_takeStrings 21 = .ok (.iload_n 2, 1) := by decide +kernel
theorem d_G_takeStrings_22 : decode b_G_takeStrings 22 = .ok (.bipush 10, 2) := by decide +kernel
theorem d_G_takeStrings_24 : decode b_G_takeStrings 24 = .ok (.if_icmp .ge 39, 3) := by decide +kernel
theorem d_G_takeStrings_27 : decode b_G_takeStrings 27 = .ok (.aload_n 0, 1) := by decide +kernel
theorem d_G_takeStrings_28 : decode b_G_takeStrings 28 = .ok (.iload_n 1, 1) := by decide +kernel
theorem d_G_takeStrings_29 : decode b_G_takeStrings 29 = .ok (.invokevirtual 139, 3) := by decide +kernel
theorem d_G_takeStrings_32 : decode b_G_takeStrings 32 = .ok (.ifCond .ne 5, 3) := by decide +kernel
theorem d_G_takeStrings_35 : decode b_G_takeStrings 35 = .ok (.iconst 0, 1) := by decide +kernel
theorem d_G_takeStrings_36 : decode b_G_takeStrings 36 = .ok (.ireturn, 1) := by decide +kernel
theorem d_G_takeStrings_37 : decode b_G_takeStrings 37 = .ok (.aload_n 0, 1) := by decide +kernel
theorem d_G_takeStrings_38 : decode b_G_takeStrings 38 = .ok (.getfield 81, 3) := by decide +kernel
theorem d_G_takeStrings_41 : decode b_G_takeStrings 41 = .ok (.bipush 44, 2) := by decide +kernel
theorem d_G_takeStrings_43 : decode b_G_takeStrings 43 = .ok (.if_icmp .eq 10, 3) := by decide +kernel
theorem d_G_takeStrings_46 : decode b_G_takeStrings 46 = .ok (.aload_n 0, 1) := by decide +kernel
theorem d_G_takeStrings_47 : decode b_G_takeStrings 47 = .ok (.bipush 93, 2) := by decide +kernel
theorem d_G_takeStrings_49 : decode b_G_takeStrings 49 = .ok (.invokevirtual 135, 3) := by decide +kernel
theorem d_G_takeStrings_52 : decode b_G_takeStrings 52 = .ok (.ireturn, 1) := by decide +kernel
theorem d_G_takeStrings_53 : decode b_G_takeStrings 53 = .ok (.aload_n 0, 1) := by decide +kernel
theorem d_G_takeStrings_54 : decode b_G_takeStrings 54 = .ok (.invokevirtual 56, 3) := by decide +kernel
theorem d_G_takeStrings_57 : decode b_G_takeStrings 57 = .ok (.iinc 2 1, 3) := by decide +kernel
theorem d_G_takeStrings_60 : decode b_G_takeStrings 60 = .ok (.goto (-39), 3) := by decide +kernel
theorem d_G_takeStrings_63 : decode b_G_takeStrings 63 = .ok (.iconst 0, 1) := by decide +kernel
theorem d_G_takeStrings_64 : decode b_G_takeStrings 64 = .ok (.ireturn, 1) := by decide +kernel
theorem d_G_takeTags_0 : decode b_G_takeTags 0 = .ok (.aload_n 0, 1) := by decide +kernel
theorem d_G_takeTags_1 : decode b_G_takeTags 1 = .ok (.getfield 81, 3) := by decide +kernel
theorem d_G_takeTags_4 : decode b_G_takeTags 4 = .ok (.iconst 2, 1) := by decide +kernel
theorem d_G_takeTags_5 : decode b_G_takeTags 5 = .ok (.if_icmp .eq 5, 3) := by decide +kernel
theorem d_G_takeTags_8 : decode b_G_takeTags 8 = .ok (.iconst 1, 1) := by decide +kernel
theorem d_G_takeTags_9 : decode b_G_takeTags 9 = .ok (.ireturn, 1) := by decide +kernel
theorem d_G_takeTags_10 : decode b_G_takeTags 10 = .ok (.aload_n 0, 1) := by decide +kernel
theorem d_G_takeTags_11 : decode b_G_takeTags 11 = .ok (.getfield 28, 3) := by decide +kernel
theorem d_G_takeTags_14 : decode b_G_takeTags 14 = .ok (.getfield 161, 3) := by decide +kernel
theorem d_G_takeTags_17 : decode b_G_takeTags 17 = .ok (.iconst 3, 1) := by decide +kernel
theorem d_G_takeTags_18 : decode b_G_takeTags 18 = .ok (.if_icmp .ne 32, 3) := by decide +kernel
theorem d_G_takeTags_21 : decode b_G_takeTags 21 = .ok (.aload_n 0, 1) := by decide +kernel
theorem d_G_takeTags_22 : decode b_G_takeTags 22 = .ok (.getfield 28, 3) := by decide +kernel
theorem d_G_takeTags_25 : decode b_G_takeTags 25 = .ok (.getfield 158, 3) := by decide +kernel
theorem d_G_takeTags_28 : decode b_G_takeTags 28 = .ok (.aload_n 0, 1) := by decide +kernel
theorem d_G_takeTags_29 : decode b_G_takeTags 29 = .ok (.getfield 47, 3) := by decide +kernel
theorem d_G_takeTags_32 : decode b_G_takeTags 32 = .ok (.iand, 1) := by decide +kernel
theorem d_G_takeTags_33 : decode b_G_takeTags 33 = .ok (.ifCond .eq 17, 3) := by decide +kernel
theorem d_G_takeTags_36 : decode b_G_takeTags 36 = .ok (.aload_n 0, 1) := by decide +kernel
theorem d_G_takeTags_37 : decode b_G_takeTags 37 = .ok (.aload_n 0, 1) := by decide +kernel
theorem d_G_takeTags_38 : decode b_G_takeTags 38 = .ok (.getfield 28, 3) := by decide +kernel
theorem d_G_takeTags_41 : decode b_G_takeTags 41 = .ok (.getfield 155, 3) := by decide +kernel
theorem d_G_takeTags_44 : decode b_G_takeTags 44 = .ok (.invokevirtual 142, 3) := by decide +kernel
theorem d_G_takeTags_47 : decode b_G_takeTags 47 = .ok (.ifCond .eq 5, 3) := by decide +kernel
theorem d_G_takeTags_50 : decode b_G_takeTags 50 = .ok (.iconst 0, 1) := by decide +kernel
theorem d_G_takeTags_51 : decode b_G_takeTags 51 = .ok (.ireturn, 1) := by decide +kernel
theorem d_G_takeTags_52 : decode b_G_takeTags 52 = .ok (.aload_n 0, 1) := by decide +kernel
theorem d_G_takeTags_53 : decode b_G_takeTags 53 = .ok (.dup, 1) := by decide +kernel
theorem d_G_takeTags_54 : decode b_G_takeTags 54 = .ok (.getfield 47, 3) := by decide +kernel
theorem d_G_takeTags_57 : decode b_G_takeTags 57 = .ok (.aload_n 0, 1) := by decide +kernel
theorem d_G_takeTags_58 : decode b_G_takeTags 58 = .ok (.getfield 28, 3) := by decide +kernel
theorem d_G_takeTags_61 : decode b_G_takeTags 61 = .ok (.getfield 158, 3) := by decide +kernel
theorem d_G_takeTags_64 : decode b_G_takeTags 64 = .ok (.iconst (-1), 1) := by decide +kernel
theorem d_G_takeTags_65 : decode b_G_takeTags 65 = .ok (.ixor, 1) := by decide +kernel
theorem d_G_takeTags_66 : decode b_G_takeTags 66 = .ok (.iand, 1) := by decide +kernel
theorem d_G_takeTags_67 : decode b_G_takeTags 67 = .ok (.putfield 47, 3) := by decide +kernel
theorem d_G_takeTags_70 : decode b_G_takeTags 70 = .ok (.aload_n 0, 1) := by decide +kernel
theorem d_G_takeTags_71 : decode b_G_takeTags 71 = .ok (.ldc 176, 2) := by decide +kernel
theorem d_G_takeTags_73 : decode b_G_takeTags 73 = .ok (.invokevirtual 61, 3) := by decide +kernel
theorem d_G_takeTags_76 : decode b_G_takeTags 76 = .ok (.aload_n 0, 1) := by decide +kernel
theorem d_G_takeTags_77 : decode b_G_takeTags 77 = .ok (.aload_n 0, 1) := by decide +kernel
theorem d_G_takeTags_78 : decode b_G_takeTags 78 = .ok (.getfield 28, 3) := by decide +kernel
theorem d_G_takeTags_81 : decode b_G_takeTags 81 = .ok (.invokevirtual 106, 3) := by decide +kernel
theorem d_G_takeTags_84 : decode b_G_takeTags 84 = .ok (.ireturn, 1) := by decide +kernel
theorem d_G_takeTest_0 : decode b_G_takeTest 0 = .ok (.aload_n 0, 1) := by decide +kernel
theorem d_G_takeTest_1 : decode b_G_takeTest 1 = .ok (.getfield 25, 3) := by decide +kernel
theorem d_G_takeTest_4 : decode b_G_takeTest 4 = .ok (.getfield 161, 3) := by decide +kernel
theorem d_G_takeTest_7 : decode b_G_takeTest 7 = .ok (.iconst 2, 1) := by decide +kernel
theorem d_G_takeTest_8 : decode b_G_takeTest 8 = .ok (.if_icmp .ne 12, 3) := by decide +kernel
theorem d_G_takeTest_11 : decode b_G_takeTest 11 = .ok (.aload_n 0, 1) := by decide +kernel
theorem d_G_takeTest_12 : decode b_G_takeTest 12 = .ok (.getfield 44, 3) := by decide +kernel
theorem d_G_takeTest_15 : decode b_G_takeTest 15 = .ok (.bipush 8, 2) := by decide +kernel
theorem d_G_takeTest_17 : decode b_G_takeTest 17 = .ok (.if_icmp .lt 5, 3) := by decide +kernel
theorem d_G_takeTest_20 : decode b_G_takeTest 20 = .ok (.iconst 0, 1) := by decide +kernel
theorem d_G_takeTest_21 : decode b_G_takeTest 21 = .ok (.ireturn, 1) := by decide +kernel
theorem d_G_takeTest_22 : decode b_G_takeTest 22 = .ok (.aload_n 0, 1) := by decide +kernel
theorem d_G_takeTest_23 : decode b_G_takeTest 23 = .ok (.dup, 1) := by decide +kernel
theorem d_G_takeTest_24 : decode b_G_takeTest 24 = .ok (.getfield 44, 3) := by decide +kernel
theorem d_G_takeTest_27 : decode b_G_takeTest 27 = .ok (.iconst 1, 1) := by decide +kernel
theorem d_G_takeTest_28 : decode b_G_takeTest 28 = .ok (.iadd, 1) := by decide +kernel
theorem d_G_takeTest_29 : decode b_G_takeTest 29 = .ok (.putfield 44, 3) := by decide +kernel
theorem d_G_takeTest_32 : decode b_G_takeTest 32 = .ok (.aload_n 0, 1) := by decide +kernel
theorem d_G_takeTest_33 : decode b_G_takeTest 33 = .ok (.ldc 172, 2) := by decide +kernel
theorem d_G_takeTest_35 : decode b_G_takeTest 35 = .ok (.invokevirtual 61, 3) := by decide +kernel
theorem d_G_takeTest_38 : decode b_G_takeTest 38 = .ok (.aload_n 0, 1) := by decide +kernel
theorem d_G_takeTest_39 : decode b_G_takeTest 39 = .ok (.invokevirtual 169, 3) := by decide +kernel
theorem d_G_takeTest_42 : decode b_G_takeTest 42 = .ok (.ireturn, 1) := by decide +kernel
theorem d_L_law_0 : decode b_L_law 0 = .ok (.new 7, 3) := by decide +kernel
theorem d_L_law_3 : decode b_L_law 3 = .ok (.dup, 1) := by decide +kernel
theorem d_L_law_4 : decode b_L_law 4 = .ok (.invokespecial 9, 3) := by decide +kernel
theorem d_L_law_7 : decode b_L_law 7 = .ok (.astore_n 1, 1) := by decide +kernel
theorem d_L_law_8 : decode b_L_law 8 = .ok (.new 10, 3) := by decide +kernel
theorem d_L_law_11 : decode b_L_law 11 = .ok (.dup, 1) := by decide +kernel
theorem d_L_law_12 : decode b_L_law 12 = .ok (.invokespecial 12, 3) := by decide +kernel
theorem d_L_law_15 : decode b_L_law 15 = .ok (.astore_n 2, 1) := by decide +kernel
theorem d_L_law_16 : decode b_L_law 16 = .ok (.iconst 0, 1) := by decide +kernel
theorem d_L_law_17 : decode b_L_law 17 = .ok (.istore_n 3, 1) := by decide +kernel
theorem d_L_law_18 : decode b_L_law 18 = .ok (.iload_n 3, 1) := by decide +kernel
theorem d_L_law_19 : decode b_L_law 19 = .ok (.aload_n 0, 1) := by decide +kernel
theorem d_L_law_20 : decode b_L_law 20 = .ok (.arraylength, 1) := by decide +kernel
theorem d_L_law_21 : decode b_L_law 21 = .ok (.iconst 4, 1) := by decide +kernel
theorem d_L_law_22 : decode b_L_law 22 = .ok (.isub, 1) := by decide +kernel
theorem d_L_law_23 : decode b_L_law 23 = .ok (.if_icmp .gt 155, 3) := by decide +kernel
theorem d_L_law_26 : decode b_L_law 26 = .ok (.aload_n 0, 1) := by decide +kernel
theorem d_L_law_27 : decode b_L_law 27 = .ok (.iload_n 3, 1) := by decide +kernel
theorem d_L_law_28 : decode b_L_law 28 = .ok (.iaload, 1) := by decide +kernel
theorem d_L_law_29 : decode b_L_law 29 = .ok (.iconst 3, 1) := by decide +kernel
theorem d_L_law_30 : decode b_L_law 30 = .ok (.iand, 1) := by decide +kernel
theorem d_L_law_31 : decode b_L_law 31 = .ok (.tableswitch 141 0 3 #[29, 92, 105, 118], 29) := by decide +kernel
theorem d_L_law_60 : decode b_L_law 60 = .ok (.aload_n 1, 1) := by decide +kernel
theorem d_L_law_61 : decode b_L_law 61 = .ok (.aload_n 0, 1) := by decide +kernel
theorem d_L_law_62 : decode b_L_law 62 = .ok (.iload_n 3, 1) := by decide +kernel
theorem d_L_law_63 : decode b_L_law 63 = .ok (.iconst 1, 1) := by decide +kernel
theorem d_L_law_64 : decode b_L_law 64 = .ok (.iadd, 1) := by decide +kernel
theorem d_L_law_65 : decode b_L_law 65 = .ok (.iaload, 1) := by decide +kernel
theorem d_L_law_66 : decode b_L_law 66 = .ok (.i2l, 1) := by decide +kernel
theorem d_L_law_67 : decode b_L_law 67 = .ok (.bipush 32, 2) := by decide +kernel
theorem d_L_law_69 : decode b_L_law 69 = .ok (.lshl, 1) := by decide +kernel
theorem d_L_law_70 : decode b_L_law 70 = .ok (.aload_n 0, 1) := by decide +kernel
theorem d_L_law_71 : decode b_L_law 71 = .ok (.iload_n 3, 1) := by decide +kernel
theorem d_L_law_72 : decode b_L_law 72 = .ok (.iconst 2, 1) := by decide +kernel
theorem d_L_law_73 : decode b_L_law 73 = .ok (.iadd, 1) := by decide +kernel
theorem d_L_law_74 : decode b_L_law 74 = .ok (.iaload, 1) := by decide +kernel
theorem d_L_law_75 : decode b_L_law 75 = .ok (.i2l, 1) := by decide +kernel
theorem d_L_law_76 : decode b_L_law 76 = .ok (.ldc2_w 13, 3) := by decide +kernel
theorem d_L_law_79 : decode b_L_law 79 = .ok (.land, 1) := by decide +kernel
theorem d_L_law_80 : decode b_L_law 80 = .ok (.lor, 1) := by decide +kernel
theorem d_L_law_81 : decode b_L_law 81 = .ok (.aload_n 0, 1) := by decide +kernel
theorem d_L_law_82 : decode b_L_law 82 = .ok (.iload_n 3, 1) := by decide +kernel
theorem d_L_law_83 : decode b_L_law 83 = .ok (.iconst 3, 1) := by decide +kernel
theorem d_L_law_84 : decode b_L_law 84 = .ok (.iadd, 1) := by decide +kernel
theorem d_L_law_85 : decode b_L_law 85 = .ok (.iaload, 1) := by decide +kernel
theorem d_L_law_86 : decode b_L_law 86 = .ok (.invokevirtual 15, 3) := by decide +kernel
theorem d_L_law_89 : decode b_L_law 89 = .ok (.aload_n 2, 1) := by decide +kernel
theorem d_L_law_90 : decode b_L_law 90 = .ok (.aload_n 0, 1) := by decide +kernel
theorem d_L_law_91 : decode b_L_law 91 = .ok (.iload_n 3, 1) := by decide +kernel
theorem d_L_law_92 : decode b_L_law 92 = .ok (.iconst 1, 1) := by decide +kernel
theorem d_L_law_93 : decode b_L_law 93 = .ok (.iadd, 1) := by decide +kernel
theorem d_L_law_94 : decode b_L_law 94 = .ok (.iaload, 1) := by decide +kernel
theorem d_L_law_95 : decode b_L_law 95 = .ok (.i2l, 1) := by decide +kernel
theorem d_L_law_96 : decode b_L_law 96 = .ok (.bipush 32, 2) := by decide +kernel
theorem d_L_law_98 : decode b_L_law 98 = .ok (.lshl, 1) := by decide +kernel
theorem d_L_law_99 : decode b_L_law 99 = .ok (.aload_n 0, 1) := by decide +kernel
theorem d_L_law_100 : decode b_L_law 100 = .ok (.iload_n 3, 1) := by decide +kernel
theorem d_L_law_101 : decode b_L_law 101 = .ok (.iconst 2, 1) := by decide +kernel
theorem d_L_law_102 : decode b_L_law 102 = .ok (.iadd, 1) := by decide +kernel
theorem d_L_law_103 : decode b_L_law 103 = .ok (.iaload, 1) := by decide +kernel
theorem d_L_law_104 : decode b_L_law 104 = .ok (.i2l, 1) := by decide +kernel
theorem d_L_law_105 : decode b_L_law 105 = .ok (.ldc2_w 13, 3) := by decide +kernel
theorem d_L_law_108 : decode b_L_law 108 = .ok (.land, 1) := by decide +kernel
theorem d_L_law_109 : decode b_L_law 109 = .ok (.lor, 1) := by decide +kernel
theorem d_L_law_110 : decode b_L_law 110 = .ok (.aload_n 0, 1) := by decide +kernel
theorem d_L_law_111 : decode b_L_law 111 = .ok (.iload_n 3, 1) := by decide +kernel
theorem d_L_law_112 : decode b_L_law 112 = .ok (.iconst 3, 1) := by decide +kernel
theorem d_L_law_113 : decode b_L_law 113 = .ok (.iadd, 1) := by decide +kernel
theorem d_L_law_114 : decode b_L_law 114 = .ok (.iaload, 1) := by decide +kernel
theorem d_L_law_115 : decode b_L_law 115 = .ok (.invokevirtual 19, 3) := by decide +kernel
theorem d_L_law_118 : decode b_L_law 118 = .ok (.if_icmp .eq 54, 3) := by decide +kernel
theorem d_L_law_121 : decode b_L_law 121 = .ok (.iconst 0, 1) := by decide +kernel
theorem d_L_law_122 : decode b_L_law 122 = .ok (.ireturn, 1) := by decide +kernel
theorem d_L_law_123 : decode b_L_law 123 = .ok (.aload_n 1, 1) := by decide +kernel
theorem d_L_law_124 : decode b_L_law 124 = .ok (.invokevirtual 20, 3) := by decide +kernel
theorem d_L_law_127 : decode b_L_law 127 = .ok (.pop, 1) := by decide +kernel
theorem d_L_law_128 : decode b_L_law 128 = .ok (.aload_n 2, 1) := by decide +kernel
theorem d_L_law_129 : decode b_L_law 129 = .ok (.invokevirtual 24, 3) := by decide +kernel
theorem d_L_law_132 : decode b_L_law 132 = .ok (.pop, 1) := by decide +kernel
theorem d_L_law_133 : decode b_L_law 133 = .ok (.goto 39, 3) := by decide +kernel
theorem d_L_law_136 : decode b_L_law 136 = .ok (.aload_n 1, 1) := by decide +kernel
theorem d_L_law_137 : decode b_L_law 137 = .ok (.invokevirtual 25, 3) := by decide +kernel
theorem d_L_law_140 : decode b_L_law 140 = .ok (.pop, 1) := by decide +kernel
theorem d_L_law_141 : decode b_L_law 141 = .ok (.aload_n 2, 1) := by decide +kernel
theorem d_L_law_142 : decode b_L_law 142 = .ok (.invokevirtual 28, 3) := by decide +kernel
theorem d_L_law_145 : decode b_L_law 145 = .ok (.pop, 1) := by decide +kernel
theorem d_L_law_146 : decode b_L_law 146 = .ok (.goto 26, 3) := by decide +kernel
theorem d_L_law_149 : decode b_L_law 149 = .ok (.aload_n 1, 1) := by decide +kernel
theorem d_L_law_150 : decode b_L_law 150 = .ok (.aload_n 0, 1) := by decide +kernel
theorem d_L_law_151 : decode b_L_law 151 = .ok (.iload_n 3, 1) := by decide +kernel
theorem d_L_law_152 : decode b_L_law 152 = .ok (.iconst 1, 1) := by decide +kernel
theorem d_L_law_153 : decode b_L_law 153 = .ok (.iadd, 1) := by decide +kernel
theorem d_L_law_154 : decode b_L_law 154 = .ok (.iaload, 1) := by decide +kernel
theorem d_L_law_155 : decode b_L_law 155 = .ok (.invokevirtual 29, 3) := by decide +kernel
theorem d_L_law_158 : decode b_L_law 158 = .ok (.pop, 1) := by decide +kernel
theorem d_L_law_159 : decode b_L_law 159 = .ok (.aload_n 2, 1) := by decide +kernel
theorem d_L_law_160 : decode b_L_law 160 = .ok (.aload_n 0, 1) := by decide +kernel
theorem d_L_law_161 : decode b_L_law 161 = .ok (.iload_n 3, 1) := by decide +kernel
theorem d_L_law_162 : decode b_L_law 162 = .ok (.iconst 1, 1) := by decide +kernel
theorem d_L_law_163 : decode b_L_law 163 = .ok (.iadd, 1) := by decide +kernel
theorem d_L_law_164 : decode b_L_law 164 = .ok (.iaload, 1) := by decide +kernel
theorem d_L_law_165 : decode b_L_law 165 = .ok (.invokevirtual 33, 3) := by decide +kernel
theorem d_L_law_168 : decode b_L_law 168 = .ok (.pop, 1) := by decide +kernel
theorem d_L_law_169 : decode b_L_law 169 = .ok (.goto 3, 3) := by decide +kernel
theorem d_L_law_172 : decode b_L_law 172 = .ok (.iinc 3 4, 3) := by decide +kernel
theorem d_L_law_175 : decode b_L_law 175 = .ok (.goto (-157), 3) := by decide +kernel
theorem d_L_law_178 : decode b_L_law 178 = .ok (.iconst 1, 1) := by decide +kernel
theorem d_L_law_179 : decode b_L_law 179 = .ok (.ireturn, 1) := by decide +kernel
theorem d_Q_add_0 : decode b_Q_add 0 = .ok (.aload_n 0, 1) := by decide +kernel
theorem d_Q_add_1 : decode b_Q_add 1 = .ok (.getfield 15, 3) := by decide +kernel
theorem d_Q_add_4 : decode b_Q_add 4 = .ok (.aload_n 0, 1) := by decide +kernel
theorem d_Q_add_5 : decode b_Q_add 5 = .ok (.getfield 9, 3) := by decide +kernel
theorem d_Q_add_8 : decode b_Q_add 8 = .ok (.arraylength, 1) := by decide +kernel
theorem d_Q_add_9 : decode b_Q_add 9 = .ok (.if_icmp .lt 5, 3) := by decide +kernel
theorem d_Q_add_12 : decode b_Q_add 12 = .ok (.iconst 0, 1) := by decide +kernel
theorem d_Q_add_13 : decode b_Q_add 13 = .ok (.ireturn, 1) := by decide +kernel
theorem d_Q_add_14 : decode b_Q_add 14 = .ok (.aload_n 0, 1) := by decide +kernel
theorem d_Q_add_15 : decode b_Q_add 15 = .ok (.getfield 9, 3) := by decide +kernel
theorem d_Q_add_18 : decode b_Q_add 18 = .ok (.aload_n 0, 1) := by decide +kernel
theorem d_Q_add_19 : decode b_Q_add 19 = .ok (.getfield 15, 3) := by decide +kernel
theorem d_Q_add_22 : decode b_Q_add 22 = .ok (.iload_n 1, 1) := by decide +kernel
theorem d_Q_add_23 : decode b_Q_add 23 = .ok (.i2b, 1) := by decide +kernel
theorem d_Q_add_24 : decode b_Q_add 24 = .ok (.bastore, 1) := by decide +kernel
theorem d_Q_add_25 : decode b_Q_add 25 = .ok (.aload_n 0, 1) := by decide +kernel
theorem d_Q_add_26 : decode b_Q_add 26 = .ok (.dup, 1) := by decide +kernel
theorem d_Q_add_27 : decode b_Q_add 27 = .ok (.getfield 15, 3) := by decide +kernel
theorem d_Q_add_30 : decode b_Q_add 30 = .ok (.iconst 1, 1) := by decide +kernel
theorem d_Q_add_31 : decode b_Q_add 31 = .ok (.iadd, 1) := by decide +kernel
theorem d_Q_add_32 : decode b_Q_add 32 = .ok (.putfield 15, 3) := by decide +kernel
theorem d_Q_add_35 : decode b_Q_add 35 = .ok (.iconst 1, 1) := by decide +kernel
theorem d_Q_add_36 : decode b_Q_add 36 = .ok (.ireturn, 1) := by decide +kernel
theorem d_Q_empty_0 : decode b_Q_empty 0 = .ok (.aload_n 0, 1) := by decide +kernel
theorem d_Q_empty_1 : decode b_Q_empty 1 = .ok (.iconst 0, 1) := by decide +kernel
theorem d_Q_empty_2 : decode b_Q_empty 2 = .ok (.putfield 15, 3) := by decide +kernel
theorem d_Q_empty_5 : decode b_Q_empty 5 = .ok (.return_, 1) := by decide +kernel
theorem d_Q_init_0 : decode b_Q_init 0 = .ok (.aload_n 0, 1) := by decide +kernel
theorem d_Q_init_1 : decode b_Q_init 1 = .ok (.invokespecial 3, 3) := by decide +kernel
theorem d_Q_init_4 : decode b_Q_init 4 = .ok (.aload_n 0, 1) := by decide +kernel
theorem d_Q_init_5 : decode b_Q_init 5 = .ok (.sipush 200, 3) := by decide +kernel
theorem d_Q_init_8 : decode b_Q_init 8 = .ok (.newarray .byte, 2) := by decide +kernel
theorem d_Q_init_10 : decode b_Q_init 10 = .ok (.putfield 9, 3) := by decide +kernel
theorem d_Q_init_13 : decode b_Q_init 13 = .ok (.aload_n 0, 1) := by decide +kernel
theorem d_Q_init_14 : decode b_Q_init 14 = .ok (.iconst 0, 1) := by decide +kernel
theorem d_Q_init_15 : decode b_Q_init 15 = .ok (.putfield 15, 3) := by decide +kernel
theorem d_Q_init_18 : decode b_Q_init 18 = .ok (.return_, 1) := by decide +kernel
theorem d_Q_isAddress_0 : decode b_Q_isAddress 0 = .ok (.iconst 0, 1) := by decide +kernel
theorem d_Q_isAddress_1 : decode b_Q_isAddress 1 = .ok (.istore_n 1, 1) := by decide +kernel
theorem d_Q_isAddress_2 : decode b_Q_isAddress 2 = .ok (.iload_n 1, 1) := by decide +kernel
theorem d_Q_isAddress_3 : decode b_Q_isAddress 3 = .ok (.aload_n 0, 1) := by decide +kernel
theorem d_Q_isAddress_4 : decode b_Q_isAddress 4 = .ok (.getfield 15, 3) := by decide +kernel
theorem d_Q_isAddress_7 : decode b_Q_isAddress 7 = .ok (.if_icmp .ge 29, 3) := by decide +kernel
theorem d_Q_isAddress_10 : decode b_Q_isAddress 10 = .ok (.iload_n 1, 1) := by decide +kernel
theorem d_Q_isAddress_11 : decode b_Q_isAddress 11 = .ok (.aload_n 0, 1) := by decide +kernel
theorem d_Q_isAddress_12 : decode b_Q_isAddress 12 = .ok (.getfield 9, 3) := by decide +kernel
theorem d_Q_isAddress_15 : decode b_Q_isAddress 15 = .ok (.arraylength, 1) := by decide +kernel
theorem d_Q_isAddress_16 : decode b_Q_isAddress 16 = .ok (.if_icmp .ge 20, 3) := by decide +kernel
theorem d_Q_isAddress_19 : decode b_Q_isAddress 19 = .ok (.aload_n 0, 1) := by decide +kernel
theorem d_Q_isAddress_20 : decode b_Q_isAddress 20 = .ok (.getfield 9, 3) := by decide +kernel
theorem d_Q_isAddress_23 : decode b_Q_isAddress 23 = .ok (.iload_n 1, 1) := by decide +kernel
theorem d_Q_isAddress_24 : decode b_Q_isAddress 24 = .ok (.baload, 1) := by decide +kernel
theorem d_Q_isAddress_25 : decode b_Q_isAddress 25 = .ok (.bipush 64, 2) := by decide +kernel
theorem d_Q_isAddress_27 : decode b_Q_isAddress 27 = .ok (.if_icmp .eq 9, 3) := by decide +kernel
theorem d_Q_isAddress_30 : decode b_Q_isAddress 30 = .ok (.iinc 1 1, 3) := by decide +kernel
theorem d_Q_isAddress_33 : decode b_Q_isAddress 33 = .ok (.goto (-31), 3) := by decide +kernel
theorem d_Q_isAddress_36 : decode b_Q_isAddress 36 = .ok (.iload_n 1, 1) := by decide +kernel
theorem d_Q_isAddress_37 : decode b_Q_isAddress 37 = .ok (.aload_n 0, 1) := by decide +kernel
theorem d_Q_isAddress_38 : decode b_Q_isAddress 38 = .ok (.getfield 15, 3) := by decide +kernel
theorem d_Q_isAddress_41 : decode b_Q_isAddress 41 = .ok (.if_icmp .ge 38, 3) := by decide +kernel
theorem d_Q_isAddress_44 : decode b_Q_isAddress 44 = .ok (.aload_n 0, 1) := by decide +kernel
theorem d_Q_isAddress_45 : decode b_Q_isAddress 45 = .ok (.iconst 0, 1) := by decide +kernel
theorem d_Q_isAddress_46 : decode b_Q_isAddress 46 = .ok (.iload_n 1, 1) := by decide +kernel
theorem d_Q_isAddress_47 : decode b_Q_isAddress 47 = .ok (.bipush 40, 2) := by decide +kernel
theorem d_Q_isAddress_49 : decode b_Q_isAddress 49 = .ok (.ldc 43, 2) := by decide +kernel
theorem d_Q_isAddress_51 : decode b_Q_isAddress 51 = .ok (.invokevirtual 45, 3) := by decide +kernel
theorem d_Q_isAddress_54 : decode b_Q_isAddress 54 = .ok (.ifCond .eq 25, 3) := by decide +kernel
theorem d_Q_isAddress_57 : decode b_Q_isAddress 57 = .ok (.aload_n 0, 1) := by decide +kernel
theorem d_Q_isAddress_58 : decode b_Q_isAddress 58 = .ok (.iload_n 1, 1) := by decide +kernel
theorem d_Q_isAddress_59 : decode b_Q_isAddress 59 = .ok (.iconst 1, 1) := by decide +kernel
theorem d_Q_isAddress_60 : decode b_Q_isAddress 60 = .ok (.iadd, 1) := by decide +kernel
theorem d_Q_isAddress_61 : decode b_Q_isAddress 61 = .ok (.aload_n 0, 1) := by decide +kernel
theorem d_Q_isAddress_62 : decode b_Q_isAddress 62 = .ok (.getfield 15, 3) := by decide +kernel
theorem d_Q_isAddress_65 : decode b_Q_isAddress 65 = .ok (.bipush 60, 2) := by decide +kernel
theorem d_Q_isAddress_67 : decode b_Q_isAddress 67 = .ok (.ldc 49, 2) := by decide +kernel
theorem d_Q_isAddress_69 : decode b_Q_isAddress 69 = .ok (.invokevirtual 45, 3) := by decide +kernel
theorem d_Q_isAddress_72 : decode b_Q_isAddress 72 = .ok (.ifCond .eq 7, 3) := by decide +kernel
theorem d_Q_isAddress_75 : decode b_Q_isAddress 75 = .ok (.iconst 1, 1) := by decide +kernel
theorem d_Q_isAddress_76 : decode b_Q_isAddress 76 = .ok (.goto 4, 3) := by decide +kernel
theorem d_Q_isAddress_79 : decode b_Q_isAddress 79 = .ok (.iconst 0, 1) := by decide +kernel
theorem d_Q_isAddress_80 : decode b_Q_isAddress 80 = .ok (.ireturn, 1) := by decide +kernel
theorem d_Q_isDotted_0 : decode b_Q_isDotted 0 = .ok (.iload_n 1, 1) := by decide +kernel
theorem d_Q_isDotted_1 : decode b_Q_isDotted 1 = .ok (.ifCond .lt 26, 3) := by decide +kernel
theorem d_Q_isDotted_4 : decode b_Q_isDotted 4 = .ok (.iload_n 2, 1) := by decide +kernel
theorem d_Q_isDotted_5 : decode b_Q_isDotted 5 = .ok (.aload_n 0, 1) := by decide +kernel
theorem d_Q_isDotted_6 : decode b_Q_isDotted 6 = .ok (.getfield 9, 3) := by decide +kernel
theorem d_Q_isDotted_9 : decode b_Q_isDotted 9 = .ok (.arraylength, 1) := by decide +kernel
theorem d_Q_isDotted_10 : decode b_Q_isDotted 10 = .ok (.if_icmp .gt 17, 3) := by decide +kernel
theorem d_Q_isDotted_13 : decode b_Q_isDotted 13 = .ok (.iload_n 2, 1) := by decide +kernel
theorem d_Q_isDotted_14 : decode b_Q_isDotted 14 = .ok (.iload_n 1, 1) := by decide +kernel
theorem d_Q_isDotted_15 : decode b_Q_isDotted 15 = .ok (.isub, 1) := by decide +kernel
theorem d_Q_isDotted_16 : decode b_Q_isDotted 16 = .ok (.iconst 1, 1) := by decide +kernel
theorem d_Q_isDotted_17 : decode b_Q_isDotted 17 = .ok (.if_icmp .lt 10, 3) := by decide +kernel
theorem d_Q_isDotted_20 : decode b_Q_isDotted 20 = .ok (.iload_n 2, 1) := by decide +kernel
theorem d_Q_isDotted_21 : decode b_Q_isDotted 21 = .ok (.iload_n 1, 1) := by decide +kernel
theorem d_Q_isDotted_22 : decode b_Q_isDotted 22 = .ok (.isub, 1) := by decide +kernel
theorem d_Q_isDotted_23 : decode b_Q_isDotted 23 = .ok (.iload_n 3, 1) := by decide +kernel
theorem d_Q_isDotted_24 : decode b_Q_isDotted 24 = .ok (.if_icmp .le 5, 3) := by decide +kernel
theorem d_Q_isDotted_27 : decode b_Q_isDotted 27 = .ok (.iconst 0, 1) := by decide +kernel
theorem d_Q_isDotted_28 : decode b_Q_isDotted 28 = .ok (.ireturn, 1) := by decide +kernel
theorem d_Q_isDotted_29 : decode b_Q_isDotted 29 = .ok (.iconst 1, 1) := by decide +kernel
theorem d_Q_isDotted_30 : decode b_Q_isDotted 30 = .ok (.istore 5, 2) := by decide +kernel
theorem d_Q_isDotted_32 : decode b_Q_isDotted 32 = .ok (.iload_n 1, 1) := by decide +kernel
theorem d_Q_isDotted_33 : decode b_Q_isDotted 33 = .ok (.istore 6, 2) := by decide +kernel
theorem d_Q_isDotted_35 : decode b_Q_isDotted 35 = .ok (.iload 6, 2) := by decide +kernel
theorem d_Q_isDotted_37 : decode b_Q_isDotted 37 = .ok (.iload_n 2, 1) := by decide +kernel
theorem d_Q_isDotted_38 : decode b_Q_isDotted 38 = .ok (.if_icmp .ge 86, 3) := by decide +kernel
theorem d_Q_isDotted_41 : decode b_Q_isDotted 41 = .ok (.aload_n 0, 1) := by decide +kernel
theorem d_Q_isDotted_42 : decode b_Q_isDotted 42 = .ok (.getfield 9, 3) := by decide +kernel
theorem d_Q_isDotted_45 : decode b_Q_isDotted 45 = .ok (.iload 6, 2) := by decide +kernel
theorem d_Q_isDotted_47 : decode b_Q_isDotted 47 = .ok (.baload, 1) := by decide +kernel
theorem d_Q_isDotted_48 : decode b_Q_isDotted 48 = .ok (.sipush 255, 3) := by decide +kernel
theorem d_Q_isDotted_51 : decode b_Q_isDotted 51 = .ok (.iand, 1) := by decide +kernel
theorem d_Q_isDotted_52 : decode b_Q_isDotted 52 = .ok (.istore 7, 2) := by decide +kernel
theorem d_Q_isDotted_54 : decode b_Q_isDotted 54 = .ok (.iload 7, 2) := by decide +kernel
theorem d_Q_isDotted_56 : decode b_Q_isDotted 56 = .ok (.bipush 46, 2) := by decide +kernel
theorem d_Q_isDotted_58 : decode b_Q_isDotted 58 = .ok (.if_icmp .ne 7, 3) := by decide +kernel
theorem d_Q_isDotted_61 : decode b_Q_isDotted 61 = .ok (.iconst 1, 1) := by decide +kernel
theorem d_Q_isDotted_62 : decode b_Q_isDotted 62 = .ok (.goto 4, 3) := by decide +kernel
theorem d_Q_isDotted_65 : decode b_Q_isDotted 65 = .ok (.iconst 0, 1) := by decide +kernel
theorem d_Q_isDotted_66 : decode b_Q_isDotted 66 = .ok (.istore 8, 2) := by decide +kernel
theorem d_Q_isDotted_68 : decode b_Q_isDotted 68 = .ok (.iload 8, 2) := by decide +kernel
theorem d_Q_isDotted_70 : decode b_Q_isDotted 70 = .ok (.ifCond .eq 10, 3) := by decide +kernel
theorem d_Q_isDotted_73 : decode b_Q_isDotted 73 = .ok (.iload 5, 2) := by decide +kernel
theorem d_Q_isDotted_75 : decode b_Q_isDotted 75 = .ok (.ifCond .eq 5, 3) := by decide +kernel
theorem d_Q_isDotted_78 : decode b_Q_isDotted 78 = .ok (.iconst 0, 1) := by decide +kernel
theorem d_Q_isDotted_79 : decode b_Q_isDotted 79 = .ok (.ireturn, 1) := by decide +kernel
theorem d_Q_isDotted_80 : decode b_Q_isDotted 80 = .ok (.iload 8, 2) := by decide +kernel
theorem d_Q_isDotted_82 : decode b_Q_isDotted 82 = .ok (.ifCond .ne 32, 3) := by decide +kernel
theorem d_Q_isDotted_85 : decode b_Q_isDotted 85 = .ok (.iload 7, 2) := by decide +kernel
theorem d_Q_isDotted_87 : decode b_Q_isDotted 87 = .ok (.invokestatic 51, 3) := by decide +kernel
theorem d_Q_isDotted_90 : decode b_Q_isDotted 90 = .ok (.ifCond .ne 24, 3) := by decide +kernel
theorem d_Q_isDotted_93 : decode b_Q_isDotted 93 = .ok (.iload 7, 2) := by decide +kernel
theorem d_Q_isDotted_95 : decode b_Q_isDotted 95 = .ok (.invokestatic 55, 3) := by decide +kernel
theorem d_Q_isDotted_98 : decode b_Q_isDotted 98 = .ok (.ifCond .ne 16, 3) := by decide +kernel
theorem d_Q_isDotted_101 : decode b_Q_isDotted 101 = .ok (.aload 4, 2) := by decide +kernel
theorem d_Q_isDotted_103 : decode b_Q_isDotted 103 = .ok (.iload 7, 2) := by decide +kernel
theorem d_Q_isDotted_105 : decode b_Q_isDotted 105 = .ok (.i2c, 1) := by decide +kernel
theorem d_Q_isDotted_106 : decode b_Q_isDotted 106 = .ok (.invokevirtual 58, 3) := by decide +kernel
theorem d_Q_isDotted_109 : decode b_Q_isDotted 109 = .ok (.ifCond .ge 5, 3) := by decide +kernel
theorem d_Q_isDotted_112 : decode b_Q_isDotted 112 = .ok (.iconst 0, 1) := by decide +kernel
theorem d_Q_isDotted_113 : decode b_Q_isDotted 113 = .ok (.ireturn, 1) := by decide +kernel
theorem d_Q_isDotted_114 : decode b_Q_isDotted 114 = .ok (.iload 8, 2) := by decide +kernel
theorem d_Q_isDotted_116 : decode b_Q_isDotted 116 = .ok (.istore 5, 2) := by decide +kernel
theorem d_Q_isDotted_118 : decode b_Q_isDotted 118 = .ok (.iinc 6 1, 3) := by decide +kernel
theorem d_Q_isDotted_121 : decode b_Q_isDotted 121 = .ok (.goto (-86), 3) := by decide +kernel
theorem d_Q_isDotted_124 : decode b_Q_isDotted 124 = .ok (.iload 5, 2) := by decide +kernel
theorem d_Q_isDotted_126 : decode b_Q_isDotted 126 = .ok (.ifCond .ne 7, 3) := by decide +kernel
theorem d_Q_isDotted_129 : decode b_Q_isDotted 129 = .ok (.iconst 1, 1) := by decide +kernel
theorem d_Q_isDotted_130 : decode b_Q_isDotted 130 = .ok (.goto 4, 3) := by decide +kernel
theorem d_Q_isDotted_133 : decode b_Q_isDotted 133 = .ok (.iconst 0, 1) := by decide +kernel
theorem d_Q_isDotted_134 : decode b_Q_isDotted 134 = .ok (.ireturn, 1) := by decide +kernel
theorem d_Q_isMailbox_0 : decode b_Q_isMailbox 0 = .ok (.aload_n 0, 1) := by decide +kernel
theorem d_Q_isMailbox_1 : decode b_Q_isMailbox 1 = .ok (.getfield 15, 3) := by decide +kernel
theorem d_Q_isMailbox_4 : decode b_Q_isMailbox 4 = .ok (.iconst 1, 1) := by decide +kernel
theorem d_Q_isMailbox_5 : decode b_Q_isMailbox 5 = .ok (.if_icmp .lt 12, 3) := by decide +kernel
theorem d_Q_isMailbox_8 : decode b_Q_isMailbox 8 = .ok (.aload_n 0, 1) := by decide +kernel
theorem d_Q_isMailbox_9 : decode b_Q_isMailbox 9 = .ok (.getfield 15, 3) := by decide +kernel
theorem d_Q_isMailbox_12 : decode b_Q_isMailbox 12 = .ok (.bipush 20, 2) := by decide +kernel
theorem d_Q_isMailbox_14 : decode b_Q_isMailbox 14 = .ok (.if_icmp .le 5, 3) := by decide +kernel
theorem d_Q_isMailbox_17 : decode b_Q_isMailbox 17 = .ok (.iconst 0, 1) := by decide +kernel
theorem d_Q_isMailbox_18 : decode b_Q_isMailbox 18 = .ok (.ireturn, 1) := by decide +kernel
theorem d_Q_isMailbox_19 : decode b_Q_isMailbox 19 = .ok (.iconst 0, 1) := by decide +kernel
theorem d_Q_isMailbox_20 : decode b_Q_isMailbox 20 = .ok (.istore_n 1, 1) := by decide +kernel
theorem d_Q_isMailbox_21 : decode b_Q_isMailbox 21 = .ok (.iload_n 1, 1) := by decide +kernel
theorem d_Q_isMailbox_22 : decode b_Q_isMailbox 22 = .ok (.aload_n 0, 1) := by decide +kernel
theorem d_Q_isMailbox_23 : decode b_Q_isMailbox 23 = .ok (.getfield 15, 3) := by decide +kernel
theorem d_Q_isMailbox_26 : decode b_Q_isMailbox 26 = .ok (.if_icmp .ge 53, 3) := by decide +kernel
theorem d_Q_isMailbox_29 : decode b_Q_isMailbox 29 = .ok (.iload_n 1, 1) := by decide +kernel
theorem d_Q_isMailbox_30 : decode b_Q_isMailbox 30 = .ok (.aload_n 0, 1) := by decide +kernel
theorem d_Q_isMailbox_31 : decode b_Q_isMailbox 31 = .ok (.getfield 9, 3) := by decide +kernel
theorem d_Q_isMailbox_34 : decode b_Q_isMailbox 34 = .ok (.arraylength, 1) := by decide +kernel
theorem d_Q_isMailbox_35 : decode b_Q_isMailbox 35 = .ok (.if_icmp .ge 44, 3) := by decide +kernel
theorem d_Q_isMailbox_38 : decode b_Q_isMailbox 38 = .ok (.aload_n 0, 1) := by decide +kernel
theorem d_Q_isMailbox_39 : decode b_Q_isMailbox 39 = .ok (.getfield 9, 3) := by decide +kernel
theorem d_Q_isMailbox_42 : decode b_Q_isMailbox 42 = .ok (.iload_n 1, 1) := by decide +kernel
theorem d_Q_isMailbox_43 : decode b_Q_isMailbox 43 = .ok (.baload, 1) := by decide +kernel
theorem d_Q_isMailbox_44 : decode b_Q_isMailbox 44 = .ok (.bipush 32, 2) := by decide +kernel
theorem d_Q_isMailbox_46 : decode b_Q_isMailbox 46 = .ok (.if_icmp .lt 25, 3) := by decide +kernel
theorem d_Q_isMailbox_49 : decode b_Q_isMailbox 49 = .ok (.aload_n 0, 1) := by decide +kernel
theorem d_Q_isMailbox_50 : decode b_Q_isMailbox 50 = .ok (.getfield 9, 3) := by decide +kernel
theorem d_Q_isMailbox_53 : decode b_Q_isMailbox 53 = .ok (.iload_n 1, 1) := by decide +kernel
theorem d_Q_isMailbox_54 : decode b_Q_isMailbox 54 = .ok (.baload, 1) := by decide +kernel
theorem d_Q_isMailbox_55 : decode b_Q_isMailbox 55 = .ok (.bipush 126, 2) := by decide +kernel
theorem d_Q_isMailbox_57 : decode b_Q_isMailbox 57 = .ok (.if_icmp .gt 14, 3) := by decide +kernel
theorem d_Q_isMailbox_60 : decode b_Q_isMailbox 60 = .ok (.aload_n 0, 1) := by decide +kernel
theorem d_Q_isMailbox_61 : decode b_Q_isMailbox 61 = .ok (.getfield 9, 3) := by decide +kernel
theorem d_Q_isMailbox_64 : decode b_Q_isMailbox 64 = .ok (.iload_n 1, 1) := by decide +kernel
theorem d_Q_isMailbox_65 : decode b_Q_isMailbox 65 = .ok (.baload, 1) := by decide +kernel
theorem d_Q_isMailbox_66 : decode b_Q_isMailbox 66 = .ok (.bipush 34, 2) := by decide +kernel
theorem d_Q_isMailbox_68 : decode b_Q_isMailbox 68 = .ok (.if_icmp .ne 5, 3) := by decide +kernel
theorem d_Q_isMailbox_71 : decode b_Q_isMailbox 71 = .ok (.iconst 0, 1) := by decide +kernel
theorem d_Q_isMailbox_72 : decode b_Q_isMailbox 72 = .ok (.ireturn, 1) := by decide +kernel
theorem d_Q_isMailbox_73 : decode b_Q_isMailbox 73 = .ok (.iinc 1 1, 3) := by decide +kernel
theorem d_Q_isMailbox_76 : decode b_Q_isMailbox 76 = .ok (.goto (-55), 3) := by decide +kernel
theorem d_Q_isMailbox_79 : decode b_Q_isMailbox 79 = .ok (.iconst 1, 1) := by decide +kernel
theorem d_Q_isMailbox_80 : decode b_Q_isMailbox 80 = .ok (.ireturn, 1) := by decide +kernel
theorem d_Q_says_0 : decode b_Q_says 0 = .ok (.sipush 256, 3) := by decide +kernel
theorem d_Q_says_3 : decode b_Q_says 3 = .ok (.istore_n 1, 1) := by decide +kernel
theorem d_Q_says_4 : decode b_Q_says 4 = .ok (.aload_n 0, 1) := by decide +kernel
theorem d_Q_says_5 : decode b_Q_says 5 = .ok (.invokevirtual 19, 3) := by decide +kernel
theorem d_Q_says_8 : decode b_Q_says 8 = .ok (.ifCond .eq 9, 3) := by decide +kernel
theorem d_Q_says_11 : decode b_Q_says 11 = .ok (.iload_n 1, 1) := by decide +kernel
theorem d_Q_says_12 : decode b_Q_says 12 = .ok (.sipush 4096, 3) := by decide +kernel
theorem d_Q_says_15 : decode b_Q_says 15 = .ok (.ior, 1) := by decide +kernel
theorem d_Q_says_16 : decode b_Q_says 16 = .ok (.istore_n 1, 1) := by decide +kernel
theorem d_Q_says_17 : decode b_Q_says 17 = .ok (.aload_n 0, 1) := by decide +kernel
theorem d_Q_says_18 : decode b_Q_says 18 = .ok (.invokevirtual 23, 3) := by decide +kernel
theorem d_Q_says_21 : decode b_Q_says 21 = .ok (.ifCond .eq 9, 3) := by decide +kernel
theorem d_Q_says_24 : decode b_Q_says 24 = .ok (.iload_n 1, 1) := by decide +kernel
theorem d_Q_says_25 : decode b_Q_says 25 = .ok (.sipush 8192, 3) := by decide +kernel
theorem d_Q_says_28 : decode b_Q_says 28 = .ok (.ior, 1) := by decide +kernel
theorem d_Q_says_29 : decode b_Q_says 29 = .ok (.istore_n 1, 1) := by decide +kernel
theorem d_Q_says_30 : decode b_Q_says 30 = .ok (.iconst 0, 1) := by decide +kernel
theorem d_Q_says_31 : decode b_Q_says 31 = .ok (.istore_n 2, 1) := by decide +kernel
theorem d_Q_says_32 : decode b_Q_says 32 = .ok (.iload_n 2, 1) := by decide +kernel
theorem d_Q_says_33 : decode b_Q_says 33 = .ok (.getstatic 26, 3) := by decide +kernel
theorem d_Q_says_36 : decode b_Q_says 36 = .ok (.arraylength, 1) := by decide +kernel
theorem d_Q_says_37 : decode b_Q_says 37 = .ok (.if_icmp .ge 43, 3) := by decide +kernel
theorem d_Q_says_40 : decode b_Q_says 40 = .ok (.aload_n 0, 1) := by decide +kernel
theorem d_Q_says_41 : decode b_Q_says 41 = .ok (.getfield 9, 3) := by decide +kernel
theorem d_Q_says_44 : decode b_Q_says 44 = .ok (.iconst 0, 1) := by decide +kernel
theorem d_Q_says_45 : decode b_Q_says 45 = .ok (.aload_n 0, 1) := by decide +kernel
theorem d_Q_says_46 : decode b_Q_says 46 = .ok (.getfield 15, 3) := by decide +kernel
theorem d_Q_says_49 : decode b_Q_says 49 = .ok (.getstatic 26, 3) := by decide +kernel
theorem d_Q_says_52 : decode b_Q_says 52 = .ok (.iload_n 2, 1) := by decide +kernel
theorem d_Q_says_53 : decode b_Q_says 53 = .ok (.aaload, 1) := by decide +kernel
theorem d_Q_says_54 : decode b_Q_says 54 = .ok (.getfield 32, 3) := by decide +kernel
theorem d_Q_says_57 : decode b_Q_says 57 = .ok (.invokestatic 36, 3) := by decide +kernel
theorem d_Q_says_60 : decode b_Q_says 60 = .ok (.ifCond .eq 14, 3) := by decide +kernel
theorem d_Q_says_63 : decode b_Q_says 63 = .ok (.iload_n 1, 1) := by decide +kernel
theorem d_Q_says_64 : decode b_Q_says 64 = .ok (.getstatic 26, 3) := by decide +kernel
theorem d_Q_says_67 : decode b_Q_says 67 = .ok (.iload_n 2, 1) := by decide +kernel
theorem d_Q_says_68 : decode b_Q_says 68 = .ok (.aaload, 1) := by decide +kernel
theorem d_Q_says_69 : decode b_Q_says 69 = .ok (.getfield 40, 3) := by decide +kernel
theorem d_Q_says_72 : decode b_Q_says 72 = .ok (.ior, 1) := by decide +kernel
theorem d_Q_says_73 : decode b_Q_says 73 = .ok (.istore_n 1, 1) := by decide +kernel
theorem d_Q_says_74 : decode b_Q_says 74 = .ok (.iinc 2 1, 3) := by decide +kernel
theorem d_Q_says_77 : decode b_Q_says 77 = .ok (.goto (-45), 3) := by decide +kernel
theorem d_Q_says_80 : decode b_Q_says 80 = .ok (.iload_n 1, 1) := by decide +kernel
theorem d_Q_says_81 : decode b_Q_says 81 = .ok (.ireturn, 1) := by decide +kernel
theorem d_S_check_0 : decode b_S_check 0 = .ok (.aload_n 0, 1) := by decide +kernel
theorem d_S_check_1 : decode b_S_check 1 = .ok (.getfield 18, 3) := by decide +kernel
theorem d_S_check_4 : decode b_S_check 4 = .ok (.aload_n 0, 1) := by decide +kernel
theorem d_S_check_5 : decode b_S_check 5 = .ok (.getfield 31, 3) := by decide +kernel
theorem d_S_check_8 : decode b_S_check 8 = .ok (.invokevirtual 38, 3) := by decide +kernel
theorem d_S_check_11 : decode b_S_check 11 = .ok (.aload_n 0, 1) := by decide +kernel
theorem d_S_check_12 : decode b_S_check 12 = .ok (.getfield 27, 3) := by decide +kernel
theorem d_S_check_15 : decode b_S_check 15 = .ok (.invokevirtual 42, 3) := by decide +kernel
theorem d_S_check_18 : decode b_S_check 18 = .ok (.istore_n 1, 1) := by decide +kernel
theorem d_S_check_19 : decode b_S_check 19 = .ok (.aload_n 0, 1) := by decide +kernel
theorem d_S_check_20 : decode b_S_check 20 = .ok (.iload_n 1, 1) := by decide +kernel
theorem d_S_check_21 : decode b_S_check 21 = .ok (.ifCond .eq 7, 3) := by decide +kernel
theorem d_S_check_24 : decode b_S_check 24 = .ok (.iconst (-1), 1) := by decide +kernel
theorem d_S_check_25 : decode b_S_check 25 = .ok (.goto 10, 3) := by decide +kernel
theorem d_S_check_28 : decode b_S_check 28 = .ok (.aload_n 0, 1) := by decide +kernel
theorem d_S_check_29 : decode b_S_check 29 = .ok (.getfield 27, 3) := by decide +kernel
theorem d_S_check_32 : decode b_S_check 32 = .ok (.invokevirtual 46, 3) := by decide +kernel
theorem d_S_check_35 : decode b_S_check 35 = .ok (.putfield 35, 3) := by decide +kernel
theorem d_S_check_38 : decode b_S_check 38 = .ok (.iload_n 1, 1) := by decide +kernel
theorem d_S_check_39 : decode b_S_check 39 = .ok (.ifCond .eq 7, 3) := by decide +kernel
theorem d_S_check_42 : decode b_S_check 42 = .ok (.iconst 0, 1) := by decide +kernel
theorem d_S_check_43 : decode b_S_check 43 = .ok (.goto 11, 3) := by decide +kernel
theorem d_S_check_46 : decode b_S_check 46 = .ok (.aload_n 0, 1) := by decide +kernel
theorem d_S_check_47 : decode b_S_check 47 = .ok (.aload_n 0, 1) := by decide +kernel
theorem d_S_check_48 : decode b_S_check 48 = .ok (.getfield 35, 3) := by decide +kernel
theorem d_S_check_51 : decode b_S_check 51 = .ok (.invokevirtual 50, 3) := by decide +kernel
theorem d_S_check_54 : decode b_S_check 54 = .ok (.istore_n 2, 1) := by decide +kernel
theorem d_S_check_55 : decode b_S_check 55 = .ok (.aload_n 0, 1) := by decide +kernel
theorem d_S_check_56 : decode b_S_check 56 = .ok (.iconst 0, 1) := by decide +kernel
theorem d_S_check_57 : decode b_S_check 57 = .ok (.putfield 31, 3) := by decide +kernel
theorem d_S_check_60 : decode b_S_check 60 = .ok (.iload_n 2, 1) := by decide +kernel
theorem d_S_check_61 : decode b_S_check 61 = .ok (.ireturn, 1) := by decide +kernel
theorem d_S_count_0 : decode b_S_count 0 = .ok (.iload_n 1, 1) := by decide +kernel
theorem d_S_count_1 : decode b_S_count 1 = .ok (.tableswitch 60 0 3 #[31, 36, 44, 52], 31) := by decide +kernel
theorem d_S_count_32 : decode b_S_count 32 = .ok (.aload_n 0, 1) := by decide +kernel
theorem d_S_count_33 : decode b_S_count 33 = .ok (.getfield 31, 3) := by decide +kernel
theorem d_S_count_36 : decode b_S_count 36 = .ok (.ireturn, 1) := by decide +kernel
theorem d_S_count_37 : decode b_S_count 37 = .ok (.aload_n 0, 1) := by decide +kernel
theorem d_S_count_38 : decode b_S_count 38 = .ok (.getfield 27, 3) := by decide +kernel
theorem d_S_count_41 : decode b_S_count 41 = .ok (.getfield 54, 3) := by decide +kernel
theorem d_S_count_44 : decode b_S_count 44 = .ok (.ireturn, 1) := by decide +kernel
theorem d_S_count_45 : decode b_S_count 45 = .ok (.aload_n 0, 1) := by decide +kernel
theorem d_S_count_46 : decode b_S_count 46 = .ok (.getfield 27, 3) := by decide +kernel
theorem d_S_count_49 : decode b_S_count 49 = .ok (.getfield 57, 3) := by decide +kernel
theorem d_S_count_52 : decode b_S_count 52 = .ok (.ireturn, 1) := by decide +kernel
theorem d_S_count_53 : decode b_S_count 53 = .ok (.aload_n 0, 1) := by decide +kernel
theorem d_S_count_54 : decode b_S_count 54 = .ok (.getfield 27, 3) := by decide +kernel
theorem d_S_count_57 : decode b_S_count 57 = .ok (.getfield 60, 3) := by decide +kernel
theorem d_S_count_60 : decode b_S_count 60 = .ok (.ireturn, 1) := by decide +kernel
theorem d_S_count_61 : decode b_S_count 61 = .ok (.iconst (-1), 1) := by decide +kernel
theorem d_S_count_62 : decode b_S_count 62 = .ok (.ireturn, 1) := by decide +kernel
theorem d_S_goesOnWord_0 : decode b_S_goesOnWord 0 = .ok (.iload_n 0, 1) := by decide +kernel
theorem d_S_goesOnWord_1 : decode b_S_goesOnWord 1 = .ok (.bipush 95, 2) := by decide +kernel
theorem d_S_goesOnWord_3 : decode b_S_goesOnWord 3 = .ok (.if_icmp .eq 17, 3) := by decide +kernel
theorem d_S_goesOnWord_6 : decode b_S_goesOnWord 6 = .ok (.iload_n 0, 1) := by decide +kernel
theorem d_S_goesOnWord_7 : decode b_S_goesOnWord 7 = .ok (.invokestatic 63, 3) := by decide +kernel
theorem d_S_goesOnWord_10 : decode b_S_goesOnWord 10 = .ok (.ifCond .ne 10, 3) := by decide +kernel
theorem d_S_goesOnWord_13 : decode b_S_goesOnWord 13 = .ok (.iload_n 0, 1) := by decide +kernel
theorem d_S_goesOnWord_14 : decode b_S_goesOnWord 14 = .ok (.invokestatic 67, 3) := by decide +kernel
theorem d_S_goesOnWord_17 : decode b_S_goesOnWord 17 = .ok (.ifCond .eq 7, 3) := by decide +kernel
theorem d_S_goesOnWord_20 : decode b_S_goesOnWord 20 = .ok (.iconst 1, 1) := by decide +kernel
theorem d_S_goesOnWord_21 : decode b_S_goesOnWord 21 = .ok (.goto 4, 3) := by decide +kernel
theorem d_S_goesOnWord_24 : decode b_S_goesOnWord 24 = .ok (.iconst 0, 1) := by decide +kernel
theorem d_S_goesOnWord_25 : decode b_S_goesOnWord 25 = .ok (.ireturn, 1) := by decide +kernel
theorem d_S_init_0 : decode b_S_init 0 = .ok (.aload_n 0, 1) := by decide +kernel
theorem d_S_init_1 : decode b_S_init 1 = .ok (.invokespecial 3, 3) := by decide +kernel
theorem d_S_init_4 : decode b_S_init 4 = .ok (.aload_n 0, 1) := by decide +kernel
theorem d_S_init_5 : decode b_S_init 5 = .ok (.sipush 400, 3) := by decide +kernel
theorem d_S_init_8 : decode b_S_init 8 = .ok (.newarray .byte, 2) := by decide +kernel
theorem d_S_init_10 : decode b_S_init 10 = .ok (.putfield 9, 3) := by decide +kernel
theorem d_S_init_13 : decode b_S_init 13 = .ok (.aload_n 0, 1) := by decide +kernel
theorem d_S_init_14 : decode b_S_init 14 = .ok (.new 13, 3) := by decide +kernel
theorem d_S_init_17 : decode b_S_init 17 = .ok (.dup, 1) := by decide +kernel
theorem d_S_init_18 : decode b_S_init 18 = .ok (.aload_n 0, 1) := by decide +kernel
theorem d_S_init_19 : decode b_S_init 19 = .ok (.getfield 9, 3) := by decide +kernel
theorem d_S_init_22 : decode b_S_init 22 = .ok (.invokespecial 15, 3) := by decide +kernel
theorem d_S_init_25 : decode b_S_init 25 = .ok (.putfield 18, 3) := by decide +kernel
theorem d_S_init_28 : decode b_S_init 28 = .ok (.aload_n 0, 1) := by decide +kernel
theorem d_S_init_29 : decode b_S_init 29 = .ok (.new 22, 3) := by decide +kernel
theorem d_S_init_32 : decode b_S_init 32 = .ok (.dup, 1) := by decide +kernel
theorem d_S_init_33 : decode b_S_init 33 = .ok (.aload_n 0, 1) := by decide +kernel
theorem d_S_init_34 : decode b_S_init 34 = .ok (.getfield 18, 3) := by decide +kernel
theorem d_S_init_37 : decode b_S_init 37 = .ok (.invokespecial 24, 3) := by decide +kernel
theorem d_S_init_40 : decode b_S_init 40 = .ok (.putfield 27, 3) := by decide +kernel
theorem d_S_init_43 : decode b_S_init 43 = .ok (.aload_n 0, 1) := by decide +kernel
theorem d_S_init_44 : decode b_S_init 44 = .ok (.iconst 0, 1) := by decide +kernel
theorem d_S_init_45 : decode b_S_init 45 = .ok (.putfield 31, 3) := by decide +kernel
theorem d_S_init_48 : decode b_S_init 48 = .ok (.aload_n 0, 1) := by decide +kernel
theorem d_S_init_49 : decode b_S_init 49 = .ok (.iconst (-1), 1) := by decide +kernel
theorem d_S_init_50 : decode b_S_init 50 = .ok (.putfield 35, 3) := by decide +kernel
theorem d_S_init_53 : decode b_S_init 53 = .ok (.return_, 1) := by decide +kernel
theorem d_S_isDigit_0 : decode b_S_isDigit 0 = .ok (.iload_n 0, 1) := by decide +kernel
theorem d_S_isDigit_1 : decode b_S_isDigit 1 = .ok (.bipush 48, 2) := by decide +kernel
theorem d_S_isDigit_3 : decode b_S_isDigit 3 = .ok (.if_icmp .lt 13, 3) := by decide +kernel
theorem d_S_isDigit_6 : decode b_S_isDigit 6 = .ok (.iload_n 0, 1) := by decide +kernel
theorem d_S_isDigit_7 : decode b_S_isDigit 7 = .ok (.bipush 57, 2) := by decide +kernel
theorem d_S_isDigit_9 : decode b_S_isDigit 9 = .ok (.if_icmp .gt 7, 3) := by decide +kernel
theorem d_S_isDigit_12 : decode b_S_isDigit 12 = .ok (.iconst 1, 1) := by decide +kernel
theorem d_S_isDigit_13 : decode b_S_isDigit 13 = .ok (.goto 4, 3) := by decide +kernel
theorem d_S_isDigit_16 : decode b_S_isDigit 16 = .ok (.iconst 0, 1) := by decide +kernel
theorem d_S_isDigit_17 : decode b_S_isDigit 17 = .ok (.ireturn, 1) := by decide +kernel
theorem d_S_isLetter_0 : decode b_S_isLetter 0 = .ok (.iload_n 0, 1) := by decide +kernel
theorem d_S_isLetter_1 : decode b_S_isLetter 1 = .ok (.bipush 97, 2) := by decide +kernel
theorem d_S_isLetter_3 : decode b_S_isLetter 3 = .ok (.if_icmp .lt 9, 3) := by decide +kernel
theorem d_S_isLetter_6 : decode b_S_isLetter 6 = .ok (.iload_n 0, 1) := by decide +kernel
theorem d_S_isLetter_7 : decode b_S_isLetter 7 = .ok (.bipush 122, 2) := by decide +kernel
theorem d_S_isLetter_9 : decode b_S_isLetter 9 = .ok (.if_icmp .le 15, 3) := by decide +kernel
theorem d_S_isLetter_12 : decode b_S_isLetter 12 = .ok (.iload_n 0, 1) := by decide +kernel
theorem d_S_isLetter_13 : decode b_S_isLetter 13 = .ok (.bipush 65, 2) := by decide +kernel
theorem d_S_isLetter_15 : decode b_S_isLetter 15 = .ok (.if_icmp .lt 13, 3) := by decide +kernel
theorem d_S_isLetter_18 : decode b_S_isLetter 18 = .ok (.iload_n 0, 1) := by decide +kernel
theorem d_S_isLetter_19 : decode b_S_isLetter 19 = .ok (.bipush 90, 2) := by decide +kernel
theorem d_S_isLetter_21 : decode b_S_isLetter 21 = .ok (.if_icmp .gt 7, 3) := by decide +kernel
theorem d_S_isLetter_24 : decode b_S_isLetter 24 = .ok (.iconst 1, 1) := by decide +kernel
theorem d_S_isLetter_25 : decode b_S_isLetter 25 = .ok (.goto 4, 3) := by decide +kernel
theorem d_S_isLetter_28 : decode b_S_isLetter 28 = .ok (.iconst 0, 1) := by decide +kernel
theorem d_S_isLetter_29 : decode b_S_isLetter 29 = .ok (.ireturn, 1) := by decide +kernel
theorem d_S_lineOf_0 : decode b_S_lineOf 0 = .ok (.iconst 1, 1) := by decide +kernel
theorem d_S_lineOf_1 : decode b_S_lineOf 1 = .ok (.istore_n 2, 1) := by decide +kernel
theorem d_S_lineOf_2 : decode b_S_lineOf 2 = .ok (.iconst 0, 1) := by decide +kernel
theorem d_S_lineOf_3 : decode b_S_lineOf 3 = .ok (.istore_n 3, 1) := by decide +kernel
theorem d_S_lineOf_4 : decode b_S_lineOf 4 = .ok (.iload_n 3, 1) := by decide +kernel
theorem d_S_lineOf_5 : decode b_S_lineOf 5 = .ok (.iload_n 1, 1) := by decide +kernel
theorem d_S_lineOf_6 : decode b_S_lineOf 6 = .ok (.if_icmp .ge 32, 3) := by decide +kernel
theorem d_S_lineOf_9 : decode b_S_lineOf 9 = .ok (.iload_n 3, 1) := by decide +kernel
theorem d_S_lineOf_10 : decode b_S_lineOf 10 = .ok (.aload_n 0, 1) := by decide +kernel
theorem d_S_lineOf_11 : decode b_S_lineOf 11 = .ok (.getfield 9, 3) := by decide +kernel
theorem d_S_lineOf_14 : decode b_S_lineOf 14 = .ok (.arraylength, 1) := by decide +kernel
theorem d_S_lineOf_15 : decode b_S_lineOf 15 = .ok (.if_icmp .ge 23, 3) := by decide +kernel
theorem d_S_lineOf_18 : decode b_S_lineOf 18 = .ok (.aload_n 0, 1) := by decide +kernel
theorem d_S_lineOf_19 : decode b_S_lineOf 19 = .ok (.getfield 9, 3) := by decide +kernel
theorem d_S_lineOf_22 : decode b_S_lineOf 22 = .ok (.iload_n 3, 1) := by decide +kernel
theorem d_S_lineOf_23 : decode b_S_lineOf 23 = .ok (.baload, 1) := by decide +kernel
theorem d_S_lineOf_24 : decode b_S_lineOf 24 = .ok (.bipush 10, 2) := by decide +kernel
theorem d_S_lineOf_26 : decode b_S_lineOf 26 = .ok (.if_icmp .ne 6, 3) := by decide +kernel
theorem d_S_lineOf_29 : decode b_S_lineOf 29 = .ok (.iinc 2 1, 3) := by decide +kernel
theorem d_S_lineOf_32 : decode b_S_lineOf 32 = .ok (.iinc 3 1, 3) := by decide +kernel
theorem d_S_lineOf_35 : decode b_S_lineOf 35 = .ok (.goto (-31), 3) := by decide +kernel
theorem d_S_lineOf_38 : decode b_S_lineOf 38 = .ok (.iload_n 2, 1) := by decide +kernel
theorem d_S_lineOf_39 : decode b_S_lineOf 39 = .ok (.ireturn, 1) := by decide +kernel
theorem d_S_place_0 : decode b_S_place 0 = .ok (.aload_n 0, 1) := by decide +kernel
theorem d_S_place_1 : decode b_S_place 1 = .ok (.getfield 35, 3) := by decide +kernel
theorem d_S_place_4 : decode b_S_place 4 = .ok (.ireturn, 1) := by decide +kernel
theorem d_S_put_0 : decode b_S_put 0 = .ok (.iload_n 3, 1) := by decide +kernel
theorem d_S_put_1 : decode b_S_put 1 = .ok (.iconst 1, 1) := by decide +kernel
theorem d_S_put_2 : decode b_S_put 2 = .ok (.if_icmp .lt 21, 3) := by decide +kernel
theorem d_S_put_5 : decode b_S_put 5 = .ok (.iload_n 3, 1) := by decide +kernel
theorem d_S_put_6 : decode b_S_put 6 = .ok (.bipush 8, 2) := by decide +kernel
theorem d_S_put_8 : decode b_S_put 8 = .ok (.if_icmp .gt 15, 3) := by decide +kernel
theorem d_S_put_11 : decode b_S_put 11 = .ok (.iload_n 3, 1) := by decide +kernel
theorem d_S_put_12 : decode b_S_put 12 = .ok (.sipush 400, 3) := by decide +kernel
theorem d_S_put_15 : decode b_S_put 15 = .ok (.aload_n 0, 1) := by decide +kernel
theorem d_S_put_16 : decode b_S_put 16 = .ok (.getfield 31, 3) := by decide +kernel
theorem d_S_put_19 : decode b_S_put 19 = .ok (.isub, 1) := by decide +kernel
theorem d_S_put_20 : decode b_S_put 20 = .ok (.if_icmp .le 5, 3) := by decide +kernel
theorem d_S_put_23 : decode b_S_put 23 = .ok (.iconst 0, 1) := by decide +kernel
theorem d_S_put_24 : decode b_S_put 24 = .ok (.ireturn, 1) := by decide +kernel
theorem d_S_put_25 : decode b_S_put 25 = .ok (.iload_n 3, 1) := by decide +kernel
theorem d_S_put_26 : decode b_S_put 26 = .ok (.iconst 1, 1) := by decide +kernel
theorem d_S_put_27 : decode b_S_put 27 = .ok (.isub, 1) := by decide +kernel
theorem d_S_put_28 : decode b_S_put 28 = .ok (.istore 4, 2) := by decide +kernel
theorem d_S_put_30 : decode b_S_put 30 = .ok (.iload 4, 2) := by decide +kernel
theorem d_S_put_32 : decode b_S_put 32 = .ok (.ifCond .lt 37, 3) := by decide +kernel
theorem d_S_put_35 : decode b_S_put 35 = .ok (.aload_n 0, 1) := by decide +kernel
theorem d_S_put_36 : decode b_S_put 36 = .ok (.getfield 9, 3) := by decide +kernel
theorem d_S_put_39 : decode b_S_put 39 = .ok (.aload_n 0, 1) := by decide +kernel
theorem d_S_put_40 : decode b_S_put 40 = .ok (.getfield 31, 3) := by decide +kernel
theorem d_S_put_43 : decode b_S_put 43 = .ok (.lload_n 1, 1) := by decide +kernel
theorem d_S_put_44 : decode b_S_put 44 = .ok (.bipush 8, 2) := by decide +kernel
theorem d_S_put_46 : decode b_S_put 46 = .ok (.iload 4, 2) := by decide +kernel
theorem d_S_put_48 : decode b_S_put 48 = .ok (.imul, 1) := by decide +kernel
theorem d_S_put_49 : decode b_S_put 49 = .ok (.lushr, 1) := by decide +kernel
theorem d_S_put_50 : decode b_S_put 50 = .ok (.l2i, 1) := by decide +kernel
theorem d_S_put_51 : decode b_S_put 51 = .ok (.i2b, 1) := by decide +kernel
theorem d_S_put_52 : decode b_S_put 52 = .ok (.bastore, 1) := by decide +kernel
theorem d_S_put_53 : decode b_S_put 53 = .ok (.aload_n 0, 1) := by decide +kernel
theorem d_S_put_54 : decode b_S_put 54 = .ok (.dup, 1) := by decide +kernel
theorem d_S_put_55 : decode b_S_put 55 = .ok (.getfield 31, 3) := by decide +kernel
theorem d_S_put_58 : decode b_S_put 58 = .ok (.iconst 1, 1) := by decide +kernel
theorem d_S_put_59 : decode b_S_put 59 = .ok (.iadd, 1) := by decide +kernel
theorem d_S_put_60 : decode b_S_put 60 = .ok (.putfield 31, 3) := by decide +kernel
theorem d_S_put_63 : decode b_S_put 63 = .ok (.iinc 4 (-1), 3) := by decide +kernel
theorem d_S_put_66 : decode b_S_put 66 = .ok (.goto (-36), 3) := by decide +kernel
theorem d_S_put_69 : decode b_S_put 69 = .ok (.iconst 1, 1) := by decide +kernel
theorem d_S_put_70 : decode b_S_put 70 = .ok (.ireturn, 1) := by decide +kernel
theorem d_S_same_0 : decode b_S_same 0 = .ok (.iload_n 1, 1) := by decide +kernel
theorem d_S_same_1 : decode b_S_same 1 = .ok (.ifCond .lt 19, 3) := by decide +kernel
theorem d_S_same_4 : decode b_S_same 4 = .ok (.iload_n 2, 1) := by decide +kernel
theorem d_S_same_5 : decode b_S_same 5 = .ok (.aload_n 0, 1) := by decide +kernel
theorem d_S_same_6 : decode b_S_same 6 = .ok (.arraylength, 1) := by decide +kernel
theorem d_S_same_7 : decode b_S_same 7 = .ok (.if_icmp .gt 13, 3) := by decide +kernel
theorem d_S_same_10 : decode b_S_same 10 = .ok (.iload_n 2, 1) := by decide +kernel
theorem d_S_same_11 : decode b_S_same 11 = .ok (.iload_n 1, 1) := by decide +kernel
theorem d_S_same_12 : decode b_S_same 12 = .ok (.isub, 1) := by decide +kernel
theorem d_S_same_13 : decode b_S_same 13 = .ok (.aload_n 3, 1) := by decide +kernel
theorem d_S_same_14 : decode b_S_same 14 = .ok (.invokevirtual 70, 3) := by decide +kernel
theorem d_S_same_17 : decode b_S_same 17 = .ok (.if_icmp .eq 5, 3) := by decide +kernel
theorem d_S_same_20 : decode b_S_same 20 = .ok (.iconst 0, 1) := by decide +kernel
theorem d_S_same_21 : decode b_S_same 21 = .ok (.ireturn, 1) := by decide +kernel
theorem d_S_same_22 : decode b_S_same 22 = .ok (.iconst 0, 1) := by decide +kernel
theorem d_S_same_23 : decode b_S_same 23 = .ok (.istore 4, 2) := by decide +kernel
theorem d_S_same_25 : decode b_S_same 25 = .ok (.iload 4, 2) := by decide +kernel
theorem d_S_same_27 : decode b_S_same 27 = .ok (.aload_n 3, 1) := by decide +kernel
theorem d_S_same_28 : decode b_S_same 28 = .ok (.invokevirtual 70, 3) := by decide +kernel
theorem d_S_same_31 : decode b_S_same 31 = .ok (.if_icmp .ge 54, 3) := by decide +kernel
theorem d_S_same_34 : decode b_S_same 34 = .ok (.aload_n 0, 1) := by decide +kernel
theorem d_S_same_35 : decode b_S_same 35 = .ok (.iload_n 1, 1) := by decide +kernel
theorem d_S_same_36 : decode b_S_same 36 = .ok (.iload 4, 2) := by decide +kernel
theorem d_S_same_38 : decode b_S_same 38 = .ok (.iadd, 1) := by decide +kernel
theorem d_S_same_39 : decode b_S_same 39 = .ok (.baload, 1) := by decide +kernel
theorem d_S_same_40 : decode b_S_same 40 = .ok (.sipush 255, 3) := by decide +kernel
theorem d_S_same_43 : decode b_S_same 43 = .ok (.iand, 1) := by decide +kernel
theorem d_S_same_44 : decode b_S_same 44 = .ok (.istore 5, 2) := by decide +kernel
theorem d_S_same_46 : decode b_S_same 46 = .ok (.iload 5, 2) := by decide +kernel
theorem d_S_same_48 : decode b_S_same 48 = .ok (.invokestatic 63, 3) := by decide +kernel
theorem d_S_same_51 : decode b_S_same 51 = .ok (.ifCond .eq 11, 3) := by decide +kernel
theorem d_S_same_54 : decode b_S_same 54 = .ok (.iload 5, 2) := by decide +kernel
theorem d_S_same_56 : decode b_S_same 56 = .ok (.bipush 32, 2) := by decide +kernel
theorem d_S_same_58 : decode b_S_same 58 = .ok (.ior, 1) := by decide +kernel
theorem d_S_same_59 : decode b_S_same 59 = .ok (.goto 5, 3) := by decide +kernel
theorem d_S_same_62 : decode b_S_same 62 = .ok (.iload 5, 2) := by decide +kernel
theorem d_S_same_64 : decode b_S_same 64 = .ok (.istore 6, 2) := by decide +kernel
theorem d_S_same_66 : decode b_S_same 66 = .ok (.iload 6, 2) := by decide +kernel
theorem d_S_same_68 : decode b_S_same 68 = .ok (.aload_n 3, 1) := by decide +kernel
theorem d_S_same_69 : decode b_S_same 69 = .ok (.iload 4, 2) := by decide +kernel
theorem d_S_same_71 : decode b_S_same 71 = .ok (.invokevirtual 74, 3) := by decide +kernel
theorem d_S_same_74 : decode b_S_same 74 = .ok (.if_icmp .eq 5, 3) := by decide +kernel
theorem d_S_same_77 : decode b_S_same 77 = .ok (.iconst 0, 1) := by decide +kernel
theorem d_S_same_78 : decode b_S_same 78 = .ok (.ireturn, 1) := by decide +kernel
theorem d_S_same_79 : decode b_S_same 79 = .ok (.iinc 4 1, 3) := by decide +kernel
theorem d_S_same_82 : decode b_S_same 82 = .ok (.goto (-57), 3) := by decide +kernel
theorem d_S_same_85 : decode b_S_same 85 = .ok (.iconst 1, 1) := by decide +kernel
theorem d_S_same_86 : decode b_S_same 86 = .ok (.ireturn, 1) := by decide +kernel
theorem d_S_startsWord_0 : decode b_S_startsWord 0 = .ok (.iload_n 0, 1) := by decide +kernel
theorem d_S_startsWord_1 : decode b_S_startsWord 1 = .ok (.bipush 95, 2) := by decide +kernel
theorem d_S_startsWord_3 : decode b_S_startsWord 3 = .ok (.if_icmp .eq 10, 3) := by decide +kernel
theorem d_S_startsWord_6 : decode b_S_startsWord 6 = .ok (.iload_n 0, 1) := by decide +kernel
theorem d_S_startsWord_7 : decode b_S_startsWord 7 = .ok (.invokestatic 63, 3) := by decide +kernel
theorem d_S_startsWord_10 : decode b_S_startsWord 10 = .ok (.ifCond .eq 7, 3) := by decide +kernel
theorem d_S_startsWord_13 : decode b_S_startsWord 13 = .ok (.iconst 1, 1) := by decide +kernel
theorem d_S_startsWord_14 : decode b_S_startsWord 14 = .ok (.goto 4, 3) := by decide +kernel
theorem d_S_startsWord_17 : decode b_S_startsWord 17 = .ok (.iconst 0, 1) := by decide +kernel
theorem d_S_startsWord_18 : decode b_S_startsWord 18 = .ok (.ireturn, 1) := by decide +kernel
theorem d_T_add_0 : decode b_T_add 0 = .ok (.aload_n 0, 1) := by decide +kernel
theorem d_T_add_1 : decode b_T_add 1 = .ok (.getfield 38, 3) := by decide +kernel
theorem d_T_add_4 : decode b_T_add 4 = .ok (.sipush 401, 3) := by decide +kernel
theorem d_T_add_7 : decode b_T_add 7 = .ok (.if_icmp .ge 56, 3) := by decide +kernel
theorem d_T_add_10 : decode b_T_add 10 = .ok (.aload_n 0, 1) := by decide +kernel
theorem d_T_add_11 : decode b_T_add 11 = .ok (.getfield 15, 3) := by decide +kernel
theorem d_T_add_14 : decode b_T_add 14 = .ok (.aload_n 0, 1) := by decide +kernel
theorem d_T_add_15 : decode b_T_add 15 = .ok (.getfield 38, 3) := by decide +kernel
theorem d_T_add_18 : decode b_T_add 18 = .ok (.iload_n 1, 1) := by decide +kernel
theorem d_T_add_19 : decode b_T_add 19 = .ok (.iastore, 1) := by decide +kernel
theorem d_T_add_20 : decode b_T_add 20 = .ok (.aload_n 0, 1) := by decide +kernel
theorem d_T_add_21 : decode b_T_add 21 = .ok (.getfield 19, 3) := by decide +kernel
theorem d_T_add_24 : decode b_T_add 24 = .ok (.aload_n 0, 1) := by decide +kernel
theorem d_T_add_25 : decode b_T_add 25 = .ok (.getfield 38, 3) := by decide +kernel
theorem d_T_add_28 : decode b_T_add 28 = .ok (.aload_n 0, 1) := by decide +kernel
theorem d_T_add_29 : decode b_T_add 29 = .ok (.getfield 45, 3) := by decide +kernel
theorem d_T_add_32 : decode b_T_add 32 = .ok (.iastore, 1) := by decide +kernel
theorem d_T_add_33 : decode b_T_add 33 = .ok (.aload_n 0, 1) := by decide +kernel
theorem d_T_add_34 : decode b_T_add 34 = .ok (.getfield 24, 3) := by decide +kernel
theorem d_T_add_37 : decode b_T_add 37 = .ok (.aload_n 0, 1) := by decide +kernel
theorem d_T_add_38 : decode b_T_add 38 = .ok (.getfield 38, 3) := by decide +kernel
theorem d_T_add_41 : decode b_T_add 41 = .ok (.aload_n 2, 1) := by decide +kernel
theorem d_T_add_42 : decode b_T_add 42 = .ok (.aastore, 1) := by decide +kernel
theorem d_T_add_43 : decode b_T_add 43 = .ok (.aload_n 0, 1) := by decide +kernel
theorem d_T_add_44 : decode b_T_add 44 = .ok (.getfield 28, 3) := by decide +kernel
theorem d_T_add_47 : decode b_T_add 47 = .ok (.aload_n 0, 1) := by decide +kernel
theorem d_T_add_48 : decode b_T_add 48 = .ok (.getfield 38, 3) := by decide +kernel
theorem d_T_add_51 : decode b_T_add 51 = .ok (.iload_n 3, 1) := by decide +kernel
theorem d_T_add_52 : decode b_T_add 52 = .ok (.iastore, 1) := by decide +kernel
theorem d_T_add_53 : decode b_T_add 53 = .ok (.aload_n 0, 1) := by decide +kernel
theorem d_T_add_54 : decode b_T_add 54 = .ok (.dup, 1) := by decide +kernel
theorem d_T_add_55 : decode b_T_add 55 = .ok (.getfield 38, 3) := by decide +kernel
theorem d_T_add_58 : decode b_T_add 58 = .ok (.iconst 1, 1) := by decide +kernel
theorem d_T_add_59 : decode b_T_add 59 = .ok (.iadd, 1) := by decide +kernel
theorem d_T_add_60 : decode b_T_add 60 = .ok (.putfield 38, 3) := by decide +kernel
theorem d_T_add_63 : decode b_T_add 63 = .ok (.aload_n 0, 1) := by decide +kernel
theorem d_T_add_64 : decode b_T_add 64 = .ok (.iload 4, 2) := by decide +kernel
theorem d_T_add_66 : decode b_T_add 66 = .ok (.putfield 45, 3) := by decide +kernel
theorem d_T_add_69 : decode b_T_add 69 = .ok (.return_, 1) := by decide +kernel
theorem d_T_behindComment_0 : decode b_T_behindComment 0 = .ok (.iload_n 1, 1) := by decide +kernel
theorem d_T_behindComment_1 : decode b_T_behindComment 1 = .ok (.istore_n 2, 1) := by decide +kernel
theorem d_T_behindComment_2 : decode b_T_behindComment 2 = .ok (.iload_n 2, 1) := by decide +kernel
theorem d_T_behindComment_3 : decode b_T_behindComment 3 = .ok (.aload_n 0, 1) := by decide +kernel
theorem d_T_behindComment_4 : decode b_T_behindComment 4 = .ok (.getfield 42, 3) := by decide +kernel
theorem d_T_behindComment_7 : decode b_T_behindComment 7 = .ok (.if_icmp .ge 35, 3) := by decide +kernel
theorem d_T_behindComment_10 : decode b_T_behindComment 10 = .ok (.aload_n 0, 1) := by decide +kernel
theorem d_T_behindComment_11 : decode b_T_behindComment 11 = .ok (.iload_n 2, 1) := by decide +kernel
theorem d_T_behindComment_12 : decode b_T_behindComment 12 = .ok (.invokevirtual 63, 3) := by decide +kernel
theorem d_T_behindComment_15 : decode b_T_behindComment 15 = .ok (.bipush 42, 2) := by decide +kernel
theorem d_T_behindComment_17 : decode b_T_behindComment 17 = .ok (.if_icmp .ne 19, 3) := by decide +kernel
theorem d_T_behindComment_20 : decode b_T_behindComment 20 = .ok (.aload_n 0, 1) := by decide +kernel
theorem d_T_behindComment_21 : decode b_T_behindComment 21 = .ok (.iload_n 2, 1) := by decide +kernel
theorem d_T_behindComment_22 : decode b_T_behindComment 22 = .ok (.iconst 1, 1) := by decide +kernel
theorem d_T_behindComment_23 : decode b_T_behindComment 23 = .ok (.iadd, 1) := by decide +kernel
theorem d_T_behindComment_24 : decode b_T_behindComment 24 = .ok (.invokevirtual 63, 3) := by decide +kernel
theorem d_T_behindComment_27 : decode b_T_behindComment 27 = .ok (.bipush 47, 2) := by decide +kernel
theorem d_T_behindComment_29 : decode b_T_behindComment 29 = .ok (.if_icmp .ne 7, 3) := by decide +kernel
theorem d_T_behindComment_32 : decode b_T_behindComment 32 = .ok (.iload_n 2, 1) := by decide +kernel
theorem d_T_behindComment_33 : decode b_T_behindComment 33 = .ok (.iconst 2, 1) := by decide +kernel
theorem d_T_behindComment_34 : decode b_T_behindComment 34 = .ok (.iadd, 1) := by decide +kernel
theorem d_T_behindComment_35 : decode b_T_behindComment 35 = .ok (.ireturn, 1) := by decide +kernel
theorem d_T_behindComment_36 : decode b_T_behindComment 36 = .ok (.iinc 2 1, 3) := by decide +kernel
theorem d_T_behindComment_39 : decode b_T_behindComment 39 = .ok (.goto (-37), 3) := by decide +kernel
theorem d_T_behindComment_42 : decode b_T_behindComment 42 = .ok (.iconst (-1), 1) := by decide +kernel
theorem d_T_behindComment_43 : decode b_T_behindComment 43 = .ok (.ireturn, 1) := by decide +kernel
theorem d_T_behindLine_0 : decode b_T_behindLine 0 = .ok (.iload_n 1, 1) := by decide +kernel
theorem d_T_behindLine_1 : decode b_T_behindLine 1 = .ok (.istore_n 2, 1) := by decide +kernel
theorem d_T_behindLine_2 : decode b_T_behindLine 2 = .ok (.iload_n 2, 1) := by decide +kernel
theorem d_T_behindLine_3 : decode b_T_behindLine 3 = .ok (.aload_n 0, 1) := by decide +kernel
theorem d_T_behindLine_4 : decode b_T_behindLine 4 = .ok (.getfield 42, 3) := by decide +kernel
theorem d_T_behindLine_7 : decode b_T_behindLine 7 = .ok (.if_icmp .ge 23, 3) := by decide +kernel
theorem d_T_behindLine_10 : decode b_T_behindLine 10 = .ok (.aload_n 0, 1) := by decide +kernel
theorem d_T_behindLine_11 : decode b_T_behindLine 11 = .ok (.iload_n 2, 1) := by decide +kernel
theorem d_T_behindLine_12 : decode b_T_behindLine 12 = .ok (.invokevirtual 63, 3) := by decide +kernel
theorem d_T_behindLine_15 : decode b_T_behindLine 15 = .ok (.bipush 10, 2) := by decide +kernel
theorem d_T_behindLine_17 : decode b_T_behindLine 17 = .ok (.if_icmp .ne 7, 3) := by decide +kernel
theorem d_T_behindLine_20 : decode b_T_behindLine 20 = .ok (.iload_n 2, 1) := by decide +kernel
theorem d_T_behindLine_21 : decode b_T_behindLine 21 = .ok (.iconst 1, 1) := by decide +kernel
theorem d_T_behindLine_22 : decode b_T_behindLine 22 = .ok (.iadd, 1) := by decide +kernel
theorem d_T_behindLine_23 : decode b_T_behindLine 23 = .ok (.ireturn, 1) := by decide +kernel
theorem d_T_behindLine_24 : decode b_T_behindLine 24 = .ok (.iinc 2 1, 3) := by decide +kernel
theorem d_T_behindLine_27 : decode b_T_behindLine 27 = .ok (.goto (-25), 3) := by decide +kernel
theorem d_T_behindLine_30 : decode b_T_behindLine 30 = .ok (.iconst (-1), 1) := by decide +kernel
theorem d_T_behindLine_31 : decode b_T_behindLine 31 = .ok (.ireturn, 1) := by decide +kernel
theorem d_T_behindLineEnd_0 : decode b_T_behindLineEnd 0 = .ok (.aload_n 0, 1) := by decide +kernel
theorem d_T_behindLineEnd_1 : decode b_T_behindLineEnd 1 = .ok (.iload_n 1, 1) := by decide +kernel
theorem d_T_behindLineEnd_2 : decode b_T_behindLineEnd 2 = .ok (.invokevirtual 63, 3) := by decide +kernel
theorem d_T_behindLineEnd_5 : decode b_T_behindLineEnd 5 = .ok (.bipush 10, 2) := by decide +kernel
theorem d_T_behindLineEnd_7 : decode b_T_behindLineEnd 7 = .ok (.if_icmp .ne 7, 3) := by decide +kernel
theorem d_T_behindLineEnd_10 : decode b_T_behindLineEnd 10 = .ok (.iload_n 1, 1) := by decide +kernel
theorem d_T_behindLineEnd_11 : decode b_T_behindLineEnd 11 = .ok (.iconst 1, 1) := by decide +kernel
theorem d_T_behindLineEnd_12 : decode b_T_behindLineEnd 12 = .ok (.iadd, 1) := by decide +kernel
theorem d_T_behindLineEnd_13 : decode b_T_behindLineEnd 13 = .ok (.ireturn, 1) := by decide +kernel
theorem d_T_behindLineEnd_14 : decode b_T_behindLineEnd 14 = .ok (.aload_n 0, 1) := by decide +kernel
theorem d_T_behindLineEnd_15 : decode b_T_behindLineEnd 15 = .ok (.iload_n 1, 1) := by decide +kernel
theorem d_T_behindLineEnd_16 : decode b_T_behindLineEnd 16 = .ok (.invokevirtual 63, 3) := by decide +kernel
theorem d_T_behindLineEnd_19 : decode b_T_behindLineEnd 19 = .ok (.bipush 13, 2) := by decide +kernel
theorem d_T_behindLineEnd_21 : decode b_T_behindLineEnd 21 = .ok (.if_icmp .ne 21, 3) := by decide +kernel
theorem d_T_behindLineEnd_24 : decode b_T_behindLineEnd 24 = .ok (.aload_n 0, 1) := by decide +kernel
theorem d_T_behindLineEnd_25 : decode b_T_behindLineEnd 25 = .ok (.iload_n 1, 1) := by decide +kernel
theorem d_T_behindLineEnd_26 : decode b_T_behindLineEnd 26 = .ok (.iconst 1, 1) := by decide +kernel
theorem d_T_behindLineEnd_27 : decode b_T_behindLineEnd 27 = .ok (.iadd, 1) := by decide +kernel
theorem d_T_behindLineEnd_28 : decode b_T_behindLineEnd 28 = .ok (.invokevirtual 63, 3) := by decide +kernel
theorem d_T_behindLineEnd_31 : decode b_T_behindLineEnd 31 = .ok (.bipush 10, 2) := by decide +kernel
theorem d_T_behindLineEnd_33 : decode b_T_behindLineEnd 33 = .ok (.if_icmp .ne 9, 3) := by decide +kernel
theorem d_T_behindLineEnd_36 : decode b_T_behindLineEnd 36 = .ok (.iload_n 1, 1) := by decide +kernel
theorem d_T_behindLineEnd_37 : decode b_T_behindLineEnd 37 = .ok (.iconst 2, 1) := by decide +kernel
theorem d_T_behindLineEnd_38 : decode b_T_behindLineEnd 38 = .ok (.iadd, 1) := by decide +kernel
theorem d_T_behindLineEnd_39 : decode b_T_behindLineEnd 39 = .ok (.goto 4, 3) := by decide +kernel
theorem d_T_behindLineEnd_42 : decode b_T_behindLineEnd 42 = .ok (.iconst (-1), 1) := by decide +kernel
theorem d_T_behindLineEnd_43 : decode b_T_behindLineEnd 43 = .ok (.ireturn, 1) := by decide +kernel
theorem d_T_byteAt_0 : decode b_T_byteAt 0 = .ok (.iload_n 1, 1) := by decide +kernel
theorem d_T_byteAt_1 : decode b_T_byteAt 1 = .ok (.ifCond .lt 33, 3) := by decide +kernel
theorem d_T_byteAt_4 : decode b_T_byteAt 4 = .ok (.iload_n 1, 1) := by decide +kernel
theorem d_T_byteAt_5 : decode b_T_byteAt 5 = .ok (.aload_n 0, 1) := by decide +kernel
theorem d_T_byteAt_6 : decode b_T_byteAt 6 = .ok (.getfield 42, 3) := by decide +kernel
theorem d_T_byteAt_9 : decode b_T_byteAt 9 = .ok (.if_icmp .ge 25, 3) := by decide +kernel
theorem d_T_byteAt_12 : decode b_T_byteAt 12 = .ok (.iload_n 1, 1) := by decide +kernel
theorem d_T_byteAt_13 : decode b_T_byteAt 13 = .ok (.aload_n 0, 1) := by decide +kernel
theorem d_T_byteAt_14 : decode b_T_byteAt 14 = .ok (.getfield 9, 3) := by decide +kernel
theorem d_T_byteAt_17 : decode b_T_byteAt 17 = .ok (.arraylength, 1) := by decide +kernel
theorem d_T_byteAt_18 : decode b_T_byteAt 18 = .ok (.if_icmp .ge 16, 3) := by decide +kernel
theorem d_T_byteAt_21 : decode b_T_byteAt 21 = .ok (.aload_n 0, 1) := by decide +kernel
theorem d_T_byteAt_22 : decode b_T_byteAt 22 = .ok (.getfield 9, 3) := by decide +kernel
theorem d_T_byteAt_25 : decode b_T_byteAt 25 = .ok (.iload_n 1, 1) := by decide +kernel
theorem d_T_byteAt_26 : decode b_T_byteAt 26 = .ok (.baload, 1) := by decide +kernel
theorem d_T_byteAt_27 : decode b_T_byteAt 27 = .ok (.sipush 255, 3) := by decide +kernel
theorem d_T_byteAt_30 : decode b_T_byteAt 30 = .ok (.iand, 1) := by decide +kernel
theorem d_T_byteAt_31 : decode b_T_byteAt 31 = .ok (.goto 4, 3) := by decide +kernel
theorem d_T_byteAt_34 : decode b_T_byteAt 34 = .ok (.iconst (-1), 1) := by decide +kernel
theorem d_T_byteAt_35 : decode b_T_byteAt 35 = .ok (.ireturn, 1) := by decide +kernel
theorem d_T_init_0 : decode b_T_init 0 = .ok (.aload_n 0, 1) := by decide +kernel
theorem d_T_init_1 : decode b_T_init 1 = .ok (.invokespecial 3, 3) := by decide +kernel
theorem d_T_init_4 : decode b_T_init 4 = .ok (.aload_n 0, 1) := by decide +kernel
theorem d_T_init_5 : decode b_T_init 5 = .ok (.aload_n 1, 1) := by decide +kernel
theorem d_T_init_6 : decode b_T_init 6 = .ok (.putfield 9, 3) := by decide +kernel
theorem d_T_init_9 : decode b_T_init 9 = .ok (.aload_n 0, 1) := by decide +kernel
theorem d_T_init_10 : decode b_T_init 10 = .ok (.sipush 401, 3) := by decide +kernel
theorem d_T_init_13 : decode b_T_init 13 = .ok (.newarray .int, 2) := by decide +kernel
theorem d_T_init_15 : decode b_T_init 15 = .ok (.putfield 15, 3) := by decide +kernel
theorem d_T_init_18 : decode b_T_init 18 = .ok (.aload_n 0, 1) := by decide +kernel
theorem d_T_init_19 : decode b_T_init 19 = .ok (.sipush 401, 3) := by decide +kernel
theorem d_T_init_22 : decode b_T_init 22 = .ok (.newarray .int, 2) := by decide +kernel
theorem d_T_init_24 : decode b_T_init 24 = .ok (.putfield 19, 3) := by decide +kernel
theorem d_T_init_27 : decode b_T_init 27 = .ok (.aload_n 0, 1) := by decide +kernel
theorem d_T_init_28 : decode b_T_init 28 = .ok (.sipush 401, 3) := by decide +kernel
theorem d_T_init_31 : decode b_T_init 31 = .ok (.anewarray 22, 3) := by decide +kernel
theorem d_T_init_34 : decode b_T_init 34 = .ok (.putfield 24, 3) := by decide +kernel
theorem d_T_init_37 : decode b_T_init 37 = .ok (.aload_n 0, 1) := by decide +kernel
theorem d_T_init_38 : decode b_T_init 38 = .ok (.sipush 401, 3) := by decide +kernel
theorem d_T_init_41 : decode b_T_init 41 = .ok (.newarray .int, 2) := by decide +kernel
theorem d_T_init_43 : decode b_T_init 43 = .ok (.putfield 28, 3) := by decide +kernel
theorem d_T_init_46 : decode b_T_init 46 = .ok (.aload_n 0, 1) := by decide +kernel
theorem d_T_init_47 : decode b_T_init 47 = .ok (.new 31, 3) := by decide +kernel
theorem d_T_init_50 : decode b_T_init 50 = .ok (.dup, 1) := by decide +kernel
theorem d_T_init_51 : decode b_T_init 51 = .ok (.invokespecial 33, 3) := by decide +kernel
theorem d_T_init_54 : decode b_T_init 54 = .ok (.putfield 34, 3) := by decide +kernel
theorem d_T_init_57 : decode b_T_init 57 = .ok (.aload_n 0, 1) := by decide +kernel
theorem d_T_init_58 : decode b_T_init 58 = .ok (.iconst 0, 1) := by decide +kernel
theorem d_T_init_59 : decode b_T_init 59 = .ok (.putfield 38, 3) := by decide +kernel
theorem d_T_init_62 : decode b_T_init 62 = .ok (.aload_n 0, 1) := by decide +kernel
theorem d_T_init_63 : decode b_T_init 63 = .ok (.iconst 0, 1) := by decide +kernel
theorem d_T_init_64 : decode b_T_init 64 = .ok (.putfield 42, 3) := by decide +kernel
theorem d_T_init_67 : decode b_T_init 67 = .ok (.aload_n 0, 1) := by decide +kernel
theorem d_T_init_68 : decode b_T_init 68 = .ok (.iconst 0, 1) := by decide +kernel
theorem d_T_init_69 : decode b_T_init 69 = .ok (.putfield 45, 3) := by decide +kernel
theorem d_T_init_72 : decode b_T_init 72 = .ok (.return_, 1) := by decide +kernel
theorem d_T_scan_0 : decode b_T_scan 0 = .ok (.aload_n 0, 1) := by decide +kernel
theorem d_T_scan_1 : decode b_T_scan 1 = .ok (.iconst 0, 1) := by decide +kernel
theorem d_T_scan_2 : decode b_T_scan 2 = .ok (.putfield 38, 3) := by decide +kernel
theorem d_T_scan_5 : decode b_T_scan 5 = .ok (.aload_n 0, 1) := by decide +kernel
theorem d_T_scan_6 : decode b_T_scan 6 = .ok (.iload_n 1, 1) := by decide +kernel
theorem d_T_scan_7 : decode b_T_scan 7 = .ok (.putfield 42, 3) := by decide +kernel
theorem d_T_scan_10 : decode b_T_scan 10 = .ok (.aload_n 0, 1) := by decide +kernel
theorem d_T_scan_11 : decode b_T_scan 11 = .ok (.iconst 0, 1) := by decide +kernel
theorem d_T_scan_12 : decode b_T_scan 12 = .ok (.putfield 45, 3) := by decide +kernel
theorem d_T_scan_15 : decode b_T_scan 15 = .ok (.iconst 0, 1) := by decide +kernel
theorem d_T_scan_16 : decode b_T_scan 16 = .ok (.istore_n 2, 1) := by decide +kernel
theorem d_T_scan_17 : decode b_T_scan 17 = .ok (.iload_n 2, 1) := by decide +kernel
theorem d_T_scan_18 : decode b_T_scan 18 = .ok (.sipush 401, 3) := by decide +kernel
theorem d_T_scan_21 : decode b_T_scan 21 = .ok (.if_icmp .ge 60, 3) := by decide +kernel
theorem d_T_scan_24 : decode b_T_scan 24 = .ok (.aload_n 0, 1) := by decide +kernel
theorem d_T_scan_25 : decode b_T_scan 25 = .ok (.invokevirtual 48, 3) := by decide +kernel
theorem d_T_scan_28 : decode b_T_scan 28 = .ok (.aload_n 0, 1) := by decide +kernel
theorem d_T_scan_29 : decode b_T_scan 29 = .ok (.getfield 45, 3) := by decide +kernel
theorem d_T_scan_32 : decode b_T_scan 32 = .ok (.aload_n 0, 1) := by decide +kernel
theorem d_T_scan_33 : decode b_T_scan 33 = .ok (.getfield 42, 3) := by decide +kernel
theorem d_T_scan_36 : decode b_T_scan 36 = .ok (.if_icmp .lt 17, 3) := by decide +kernel
theorem d_T_scan_39 : decode b_T_scan 39 = .ok (.aload_n 0, 1) := by decide +kernel
theorem d_T_scan_40 : decode b_T_scan 40 = .ok (.iconst 5, 1) := by decide +kernel
theorem d_T_scan_41 : decode b_T_scan 41 = .ok (.getstatic 51, 3) := by decide +kernel
theorem d_T_scan_44 : decode b_T_scan 44 = .ok (.iconst 0, 1) := by decide +kernel
theorem d_T_scan_45 : decode b_T_scan 45 = .ok (.aload_n 0, 1) := by decide +kernel
theorem d_T_scan_46 : decode b_T_scan 46 = .ok (.getfield 45, 3) := by decide +kernel
theorem d_T_scan_49 : decode b_T_scan 49 = .ok (.invokevirtual 55, 3) := by decide +kernel
theorem d_T_scan_52 : decode b_T_scan 52 = .ok (.return_, 1) := by decide +kernel
theorem d_T_scan_53 : decode b_T_scan 53 = .ok (.aload_n 0, 1) := by decide +kernel
theorem d_T_scan_54 : decode b_T_scan 54 = .ok (.invokevirtual 59, 3) := by decide +kernel
theorem d_T_scan_57 : decode b_T_scan 57 = .ok (.ifCond .ne 18, 3) := by decide +kernel
theorem d_T_scan_60 : decode b_T_scan 60 = .ok (.aload_n 0, 1) := by decide +kernel
theorem d_T_scan_61 : decode b_T_scan 61 = .ok (.bipush 6, 2) := by decide +kernel
theorem d_T_scan_63 : decode b_T_scan 63 = .ok (.getstatic 51, 3) := by decide +kernel
theorem d_T_scan_66 : decode b_T_scan 66 = .ok (.iconst 0, 1) := by decide +kernel
theorem d_T_scan_67 : decode b_T_scan 67 = .ok (.aload_n 0, 1) := by decide +kernel
theorem d_T_scan_68 : decode b_T_scan 68 = .ok (.getfield 45, 3) := by decide +kernel
theorem d_T_scan_71 : decode b_T_scan 71 = .ok (.invokevirtual 55, 3) := by decide +kernel
theorem d_T_scan_74 : decode b_T_scan 74 = .ok (.return_, 1) := by decide +kernel
theorem d_T_scan_75 : decode b_T_scan 75 = .ok (.iinc 2 1, 3) := by decide +kernel
theorem d_T_scan_78 : decode b_T_scan 78 = .ok (.goto (-61), 3) := by decide +kernel
theorem d_T_scan_81 : decode b_T_scan 81 = .ok (.return_, 1) := by decide +kernel
theorem d_T_scanNumber_0 : decode b_T_scanNumber 0 = .ok (.lconst 0, 1) := by decide +kernel
theorem d_T_scanNumber_1 : decode b_T_scanNumber 1 = .ok (.lstore_n 1, 1) := by decide +kernel
theorem d_T_scanNumber_2 : decode b_T_scanNumber 2 = .ok (.aload_n 0, 1) := by decide +kernel
theorem d_T_scanNumber_3 : decode b_T_scanNumber 3 = .ok (.getfield 45, 3) := by decide +kernel
theorem d_T_scanNumber_6 : decode b_T_scanNumber 6 = .ok (.istore_n 3, 1) := by decide +kernel
theorem d_T_scanNumber_7 : decode b_T_scanNumber 7 = .ok (.iload_n 3, 1) := by decide +kernel
theorem d_T_scanNumber_8 : decode b_T_scanNumber 8 = .ok (.aload_n 0, 1) := by decide +kernel
theorem d_T_scanNumber_9 : decode b_T_scanNumber 9 = .ok (.getfield 42, 3) := by decide +kernel
theorem d_T_scanNumber_12 : decode b_T_scanNumber 12 = .ok (.if_icmp .ge 43, 3) := by decide +kernel
theorem d_T_scanNumber_15 : decode b_T_scanNumber 15 = .ok (.aload_n 0, 1) := by decide +kernel
theorem d_T_scanNumber_16 : decode b_T_scanNumber 16 = .ok (.iload_n 3, 1) := by decide +kernel
theorem d_T_scanNumber_17 : decode b_T_scanNumber 17 = .ok (.invokevirtual 63, 3) := by decide +kernel
theorem d_T_scanNumber_20 : decode b_T_scanNumber 20 = .ok (.invokestatic 83, 3) := by decide +kernel
theorem d_T_scanNumber_23 : decode b_T_scanNumber 23 = .ok (.ifCond .eq 32, 3) := by decide +kernel
theorem d_T_scanNumber_26 : decode b_T_scanNumber 26 = .ok (.lload_n 1, 1) := by decide +kernel
theorem d_T_scanNumber_27 : decode b_T_scanNumber 27 = .ok (.ldc2_w 118, 3) := by decide +kernel
theorem d_T_scanNumber_30 : decode b_T_scanNumber 30 = .ok (.lmul, 1) := by decide +kernel
theorem d_T_scanNumber_31 : decode b_T_scanNumber 31 = .ok (.aload_n 0, 1) := by decide +kernel
theorem d_T_scanNumber_32 : decode b_T_scanNumber 32 = .ok (.iload_n 3, 1) := by decide +kernel
theorem d_T_scanNumber_33 : decode b_T_scanNumber 33 = .ok (.invokevirtual 63, 3) := by decide +kernel
theorem d_T_scanNumber_36 : decode b_T_scanNumber 36 = .ok (.i2l, 1) := by decide +kernel
theorem d_T_scanNumber_37 : decode b_T_scanNumber 37 = .ok (.ladd, 1) := by decide +kernel
theorem d_T_scanNumber_38 : decode b_T_scanNumber 38 = .ok (.ldc2_w 120, 3) := by decide +kernel
theorem d_T_scanNumber_41 : decode b_T_scanNumber 41 = .ok (.lsub, 1) := by decide +kernel
theorem d_T_scanNumber_42 : decode b_T_scanNumber 42 = .ok (.ldc2_w 122, 3) := by decide +kernel
theorem d_T_scanNumber_45 : decode b_T_scanNumber 45 = .ok (.invokestatic 124, 3) := by decide +kernel
theorem d_T_scanNumber_48 : decode b_T_scanNumber 48 = .ok (.lstore_n 1, 1) := by decide +kernel
theorem d_T_scanNumber_49 : decode b_T_scanNumber 49 = .ok (.iinc 3 1, 3) := by decide +kernel
theorem d_T_scanNumber_52 : decode b_T_scanNumber 52 = .ok (.goto (-45), 3) := by decide +kernel
theorem d_T_scanNumber_55 : decode b_T_scanNumber 55 = .ok (.aload_n 0, 1) := by decide +kernel
theorem d_T_scanNumber_56 : decode b_T_scanNumber 56 = .ok (.iload_n 3, 1) := by decide +kernel
theorem d_T_scanNumber_57 : decode b_T_scanNumber 57 = .ok (.invokevirtual 63, 3) := by decide +kernel
theorem d_T_scanNumber_60 : decode b_T_scanNumber 60 = .ok (.invokestatic 130, 3) := by decide +kernel
theorem d_T_scanNumber_63 : decode b_T_scanNumber 63 = .ok (.istore 4, 2) := by decide +kernel
theorem d_T_scanNumber_65 : decode b_T_scanNumber 65 = .ok (.iload 4, 2) := by decide +kernel
theorem d_T_scanNumber_67 : decode b_T_scanNumber 67 = .ok (.ifCond .le 6, 3) := by decide +kernel
theorem d_T_scanNumber_70 : decode b_T_scanNumber 70 = .ok (.iinc 3 1, 3) := by decide +kernel
theorem d_T_scanNumber_73 : decode b_T_scanNumber 73 = .ok (.lload_n 1, 1) := by decide +kernel
theorem d_T_scanNumber_74 : decode b_T_scanNumber 74 = .ok (.iload 4, 2) := by decide +kernel
theorem d_T_scanNumber_76 : decode b_T_scanNumber 76 = .ok (.lshl, 1) := by decide +kernel
theorem d_T_scanNumber_77 : decode b_T_scanNumber 77 = .ok (.ldc2_w 133, 3) := by decide +kernel
theorem d_T_scanNumber_80 : decode b_T_scanNumber 80 = .ok (.lcmp, 1) := by decide +kernel
theorem d_T_scanNumber_81 : decode b_T_scanNumber 81 = .ok (.ifCond .gt 14, 3) := by decide +kernel
theorem d_T_scanNumber_84 : decode b_T_scanNumber 84 = .ok (.aload_n 0, 1) := by decide +kernel
theorem d_T_scanNumber_85 : decode b_T_scanNumber 85 = .ok (.iload_n 3, 1) := by decide +kernel
theorem d_T_scanNumber_86 : decode b_T_scanNumber 86 = .ok (.invokevirtual 63, 3) := by decide +kernel
theorem d_T_scanNumber_89 : decode b_T_scanNumber 89 = .ok (.invokestatic 99, 3) := by decide +kernel
theorem d_T_scanNumber_92 : decode b_T_scanNumber 92 = .ok (.ifCond .eq 5, 3) := by decide +kernel
theorem d_T_scanNumber_95 : decode b_T_scanNumber 95 = .ok (.iconst 0, 1) := by decide +kernel
theorem d_T_scanNumber_96 : decode b_T_scanNumber 96 = .ok (.ireturn, 1) := by decide +kernel
theorem d_T_scanNumber_97 : decode b_T_scanNumber 97 = .ok (.aload_n 0, 1) := by decide +kernel
theorem d_T_scanNumber_98 : decode b_T_scanNumber 98 = .ok (.iconst 3, 1) := by decide +kernel
theorem d_T_scanNumber_99 : decode b_T_scanNumber 99 = .ok (.getstatic 51, 3) := by decide +kernel
theorem d_T_scanNumber_102 : decode b_T_scanNumber 102 = .ok (.iconst 0, 1) := by decide +kernel
theorem d_T_scanNumber_103 : decode b_T_scanNumber 103 = .ok (.iload_n 3, 1) := by decide +kernel
theorem d_T_scanNumber_104 : decode b_T_scanNumber 104 = .ok (.invokevirtual 55, 3) := by decide +kernel
theorem d_T_scanNumber_107 : decode b_T_scanNumber 107 = .ok (.iconst 1, 1) := by decide +kernel
theorem d_T_scanNumber_108 : decode b_T_scanNumber 108 = .ok (.ireturn, 1) := by decide +kernel
theorem d_T_scanQuoted_0 : decode b_T_scanQuoted 0 = .ok (.aload_n 0, 1) := by decide +kernel
theorem d_T_scanQuoted_1 : decode b_T_scanQuoted 1 = .ok (.getfield 34, 3) := by decide +kernel
theorem d_T_scanQuoted_4 : decode b_T_scanQuoted 4 = .ok (.invokevirtual 135, 3) := by decide +kernel
theorem d_T_scanQuoted_7 : decode b_T_scanQuoted 7 = .ok (.aload_n 0, 1) := by decide +kernel
theorem d_T_scanQuoted_8 : decode b_T_scanQuoted 8 = .ok (.getfield 45, 3) := by decide +kernel
theorem d_T_scanQuoted_11 : decode b_T_scanQuoted 11 = .ok (.iconst 1, 1) := by decide +kernel
theorem d_T_scanQuoted_12 : decode b_T_scanQuoted 12 = .ok (.iadd, 1) := by decide +kernel
theorem d_T_scanQuoted_13 : decode b_T_scanQuoted 13 = .ok (.istore_n 1, 1) := by decide +kernel
theorem d_T_scanQuoted_14 : decode b_T_scanQuoted 14 = .ok (.iload_n 1, 1) := by decide +kernel
theorem d_T_scanQuoted_15 : decode b_T_scanQuoted 15 = .ok (.aload_n 0, 1) := by decide +kernel
theorem d_T_scanQuoted_16 : decode b_T_scanQuoted 16 = .ok (.getfield 42, 3) := by decide +kernel
theorem d_T_scanQuoted_19 : decode b_T_scanQuoted 19 = .ok (.if_icmp .ge 73, 3) := by decide +kernel
theorem d_T_scanQuoted_22 : decode b_T_scanQuoted 22 = .ok (.aload_n 0, 1) := by decide +kernel
theorem d_T_scanQuoted_23 : decode b_T_scanQuoted 23 = .ok (.iload_n 1, 1) := by decide +kernel
theorem d_T_scanQuoted_24 : decode b_T_scanQuoted 24 = .ok (.invokevirtual 63, 3) := by decide +kernel
theorem d_T_scanQuoted_27 : decode b_T_scanQuoted 27 = .ok (.istore_n 2, 1) := by decide +kernel
theorem d_T_scanQuoted_28 : decode b_T_scanQuoted 28 = .ok (.iload_n 2, 1) := by decide +kernel
theorem d_T_scanQuoted_29 : decode b_T_scanQuoted 29 = .ok (.bipush 34, 2) := by decide +kernel
theorem d_T_scanQuoted_31 : decode b_T_scanQuoted 31 = .ok (.if_icmp .ne 23, 3) := by decide +kernel
theorem d_T_scanQuoted_34 : decode b_T_scanQuoted 34 = .ok (.aload_n 0, 1) := by decide +kernel
theorem d_T_scanQuoted_35 : decode b_T_scanQuoted 35 = .ok (.iconst 4, 1) := by decide +kernel
theorem d_T_scanQuoted_36 : decode b_T_scanQuoted 36 = .ok (.getstatic 51, 3) := by decide +kernel
theorem d_T_scanQuoted_39 : decode b_T_scanQuoted 39 = .ok (.aload_n 0, 1) := by decide +kernel
theorem d_T_scanQuoted_40 : decode b_T_scanQuoted 40 = .ok (.getfield 34, 3) := by decide +kernel
theorem d_T_scanQuoted_43 : decode b_T_scanQuoted 43 = .ok (.invokevirtual 138, 3) := by decide +kernel
theorem d_T_scanQuoted_46 : decode b_T_scanQuoted 46 = .ok (.iload_n 1, 1) := by decide +kernel
theorem d_T_scanQuoted_47 : decode b_T_scanQuoted 47 = .ok (.iconst 1, 1) := by decide +kernel
theorem d_T_scanQuoted_48 : decode b_T_scanQuoted 48 = .ok (.iadd, 1) := by decide +kernel
theorem d_T_scanQuoted_49 : decode b_T_scanQuoted 49 = .ok (.invokevirtual 55, 3) := by decide +kernel
theorem d_T_scanQuoted_52 : decode b_T_scanQuoted 52 = .ok (.iconst 1, 1) := by decide +kernel
theorem d_T_scanQuoted_53 : decode b_T_scanQuoted 53 = .ok (.ireturn, 1) := by decide +kernel
theorem d_T_scanQuoted_54 : decode b_T_scanQuoted 54 = .ok (.iload_n 2, 1) := by decide +kernel
theorem d_T_scanQuoted_55 : decode b_T_scanQuoted 55 = .ok (.bipush 92, 2) := by decide +kernel
theorem d_T_scanQuoted_57 : decode b_T_scanQuoted 57 = .ok (.if_icmp .ne 12, 3) := by decide +kernel
theorem d_T_scanQuoted_60 : decode b_T_scanQuoted 60 = .ok (.iinc 1 1, 3) := by decide +kernel
theorem d_T_scanQuoted_63 : decode b_T_scanQuoted 63 = .ok (.aload_n 0, 1) := by decide +kernel
theorem d_T_scanQuoted_64 : decode b_T_scanQuoted 64 = .ok (.iload_n 1, 1) := by decide +kernel
theorem d_T_scanQuoted_65 : decode b_T_scanQuoted 65 = .ok (.invokevirtual 63, 3) := by decide +kernel
theorem d_T_scanQuoted_68 : decode b_T_scanQuoted 68 = .ok (.istore_n 2, 1) := by decide +kernel
theorem d_T_scanQuoted_69 : decode b_T_scanQuoted 69 = .ok (.iload_n 2, 1) := by decide +kernel
theorem d_T_scanQuoted_70 : decode b_T_scanQuoted 70 = .ok (.ifCond .lt 14, 3) := by decide +kernel
theorem d_T_scanQuoted_73 : decode b_T_scanQuoted 73 = .ok (.aload_n 0, 1) := by decide +kernel
theorem d_T_scanQuoted_74 : decode b_T_scanQuoted 74 = .ok (.getfield 34, 3) := by decide +kernel
theorem d_T_scanQuoted_77 : decode b_T_scanQuoted 77 = .ok (.iload_n 2, 1) := by decide +kernel
theorem d_T_scanQuoted_78 : decode b_T_scanQuoted 78 = .ok (.invokevirtual 141, 3) := by decide +kernel
theorem d_T_scanQuoted_81 : decode b_T_scanQuoted 81 = .ok (.ifCond .ne 5, 3) := by decide +kernel
theorem d_T_scanQuoted_84 : decode b_T_scanQuoted 84 = .ok (.iconst 0, 1) := by decide +kernel
theorem d_T_scanQuoted_85 : decode b_T_scanQuoted 85 = .ok (.ireturn, 1) := by decide +kernel
theorem d_T_scanQuoted_86 : decode b_T_scanQuoted 86 = .ok (.iinc 1 1, 3) := by decide +kernel
theorem d_T_scanQuoted_89 : decode b_T_scanQuoted 89 = .ok (.goto (-75), 3) := by decide +kernel
theorem d_T_scanQuoted_92 : decode b_T_scanQuoted 92 = .ok (.iconst 0, 1) := by decide +kernel
theorem d_T_scanQuoted_93 : decode b_T_scanQuoted 93 = .ok (.ireturn, 1) := by decide +kernel
theorem d_T_scanTag_0 : decode b_T_scanTag 0 = .ok (.aload_n 0, 1) := by decide +kernel
theorem d_T_scanTag_1 : decode b_T_scanTag 1 = .ok (.aload_n 0, 1) := by decide +kernel
theorem d_T_scanTag_2 : decode b_T_scanTag 2 = .ok (.getfield 45, 3) := by decide +kernel
theorem d_T_scanTag_5 : decode b_T_scanTag 5 = .ok (.iconst 1, 1) := by decide +kernel
theorem d_T_scanTag_6 : decode b_T_scanTag 6 = .ok (.iadd, 1) := by decide +kernel
theorem d_T_scanTag_7 : decode b_T_scanTag 7 = .ok (.invokevirtual 63, 3) := by decide +kernel
theorem d_T_scanTag_10 : decode b_T_scanTag 10 = .ok (.invokestatic 73, 3) := by decide +kernel
theorem d_T_scanTag_13 : decode b_T_scanTag 13 = .ok (.ifCond .ne 5, 3) := by decide +kernel
theorem d_T_scanTag_16 : decode b_T_scanTag 16 = .ok (.iconst 0, 1) := by decide +kernel
theorem d_T_scanTag_17 : decode b_T_scanTag 17 = .ok (.ireturn, 1) := by decide +kernel
theorem d_T_scanTag_18 : decode b_T_scanTag 18 = .ok (.aload_n 0, 1) := by decide +kernel
theorem d_T_scanTag_19 : decode b_T_scanTag 19 = .ok (.aload_n 0, 1) := by decide +kernel
theorem d_T_scanTag_20 : decode b_T_scanTag 20 = .ok (.getfield 45, 3) := by decide +kernel
theorem d_T_scanTag_23 : decode b_T_scanTag 23 = .ok (.iconst 1, 1) := by decide +kernel
theorem d_T_scanTag_24 : decode b_T_scanTag 24 = .ok (.iadd, 1) := by decide +kernel
theorem d_T_scanTag_25 : decode b_T_scanTag 25 = .ok (.invokevirtual 102, 3) := by decide +kernel
theorem d_T_scanTag_28 : decode b_T_scanTag 28 = .ok (.istore_n 1, 1) := by decide +kernel
theorem d_T_scanTag_29 : decode b_T_scanTag 29 = .ok (.aload_n 0, 1) := by decide +kernel
theorem d_T_scanTag_30 : decode b_T_scanTag 30 = .ok (.iconst 2, 1) := by decide +kernel
theorem d_T_scanTag_31 : decode b_T_scanTag 31 = .ok (.aload_n 0, 1) := by decide +kernel
theorem d_T_scanTag_32 : decode b_T_scanTag 32 = .ok (.getfield 9, 3) := by decide +kernel
theorem d_T_scanTag_35 : decode b_T_scanTag 35 = .ok (.aload_n 0, 1) := by decide +kernel
theorem d_T_scanTag_36 : decode b_T_scanTag 36 = .ok (.getfield 45, 3) := by decide +kernel
theorem d_T_scanTag_39 : decode b_T_scanTag 39 = .ok (.iconst 1, 1) := by decide +kernel
theorem d_T_scanTag_40 : decode b_T_scanTag 40 = .ok (.iadd, 1) := by decide +kernel
theorem d_T_scanTag_41 : decode b_T_scanTag 41 = .ok (.iload_n 1, 1) := by decide +kernel
theorem d_T_scanTag_42 : decode b_T_scanTag 42 = .ok (.invokestatic 114, 3) := by decide +kernel
theorem d_T_scanTag_45 : decode b_T_scanTag 45 = .ok (.iconst 0, 1) := by decide +kernel
theorem d_T_scanTag_46 : decode b_T_scanTag 46 = .ok (.iload_n 1, 1) := by decide +kernel
theorem d_T_scanTag_47 : decode b_T_scanTag 47 = .ok (.invokevirtual 55, 3) := by decide +kernel
theorem d_T_scanTag_50 : decode b_T_scanTag 50 = .ok (.iconst 1, 1) := by decide +kernel
theorem d_T_scanTag_51 : decode b_T_scanTag 51 = .ok (.ireturn, 1) := by decide +kernel
theorem d_T_scanText_0 : decode b_T_scanText 0 = .ok (.iload_n 1, 1) := by decide +kernel
theorem d_T_scanText_1 : decode b_T_scanText 1 = .ok (.istore_n 2, 1) := by decide +kernel
theorem d_T_scanText_2 : decode b_T_scanText 2 = .ok (.iload_n 2, 1) := by decide +kernel
theorem d_T_scanText_3 : decode b_T_scanText 3 = .ok (.aload_n 0, 1) := by decide +kernel
theorem d_T_scanText_4 : decode b_T_scanText 4 = .ok (.getfield 42, 3) := by decide +kernel
theorem d_T_scanText_7 : decode b_T_scanText 7 = .ok (.if_icmp .ge 29, 3) := by decide +kernel
theorem d_T_scanText_10 : decode b_T_scanText 10 = .ok (.aload_n 0, 1) := by decide +kernel
theorem d_T_scanText_11 : decode b_T_scanText 11 = .ok (.iload_n 2, 1) := by decide +kernel
theorem d_T_scanText_12 : decode b_T_scanText 12 = .ok (.invokevirtual 63, 3) := by decide +kernel
theorem d_T_scanText_15 : decode b_T_scanText 15 = .ok (.bipush 32, 2) := by decide +kernel
theorem d_T_scanText_17 : decode b_T_scanText 17 = .ok (.if_icmp .eq 13, 3) := by decide +kernel
theorem d_T_scanText_20 : decode b_T_scanText 20 = .ok (.aload_n 0, 1) := by decide +kernel
theorem d_T_scanText_21 : decode b_T_scanText 21 = .ok (.iload_n 2, 1) := by decide +kernel
theorem d_T_scanText_22 : decode b_T_scanText 22 = .ok (.invokevirtual 63, 3) := by decide +kernel
theorem d_T_scanText_25 : decode b_T_scanText 25 = .ok (.bipush 9, 2) := by decide +kernel
theorem d_T_scanText_27 : decode b_T_scanText 27 = .ok (.if_icmp .ne 9, 3) := by decide +kernel
theorem d_T_scanText_30 : decode b_T_scanText 30 = .ok (.iinc 2 1, 3) := by decide +kernel
theorem d_T_scanText_33 : decode b_T_scanText 33 = .ok (.goto (-31), 3) := by decide +kernel
theorem d_T_scanText_36 : decode b_T_scanText 36 = .ok (.aload_n 0, 1) := by decide +kernel
theorem d_T_scanText_37 : decode b_T_scanText 37 = .ok (.iload_n 2, 1) := by decide +kernel
theorem d_T_scanText_38 : decode b_T_scanText 38 = .ok (.invokevirtual 143, 3) := by decide +kernel
theorem d_T_scanText_41 : decode b_T_scanText 41 = .ok (.istore_n 3, 1) := by decide +kernel
theorem d_T_scanText_42 : decode b_T_scanText 42 = .ok (.iconst 0, 1) := by decide +kernel
theorem d_T_scanText_43 : decode b_T_scanText 43 = .ok (.istore 4, 2) := by decide +kernel
theorem d_T_scanText_45 : decode b_T_scanText 45 = .ok (.iload 4, 2) := by decide +kernel
theorem d_T_scanText_47 : decode b_T_scanText 47 = .ok (.sipush 400, 3) := by decide +kernel
theorem d_T_scanText_50 : decode b_T_scanText 50 = .ok (.if_icmp .ge 62, 3) := by decide +kernel
theorem d_T_scanText_53 : decode b_T_scanText 53 = .ok (.iload_n 3, 1) := by decide +kernel
theorem d_T_scanText_54 : decode b_T_scanText 54 = .ok (.ifCond .lt 58, 3) := by decide +kernel
theorem d_T_scanText_57 : decode b_T_scanText 57 = .ok (.aload_n 0, 1) := by decide +kernel
theorem d_T_scanText_58 : decode b_T_scanText 58 = .ok (.iload_n 3, 1) := by decide +kernel
theorem d_T_scanText_59 : decode b_T_scanText 59 = .ok (.invokevirtual 63, 3) := by decide +kernel
theorem d_T_scanText_62 : decode b_T_scanText 62 = .ok (.bipush 46, 2) := by decide +kernel
theorem d_T_scanText_64 : decode b_T_scanText 64 = .ok (.if_icmp .ne 13, 3) := by decide +kernel
theorem d_T_scanText_67 : decode b_T_scanText 67 = .ok (.aload_n 0, 1) := by decide +kernel
theorem d_T_scanText_68 : decode b_T_scanText 68 = .ok (.iload_n 3, 1) := by decide +kernel
theorem d_T_scanText_69 : decode b_T_scanText 69 = .ok (.iconst 1, 1) := by decide +kernel
theorem d_T_scanText_70 : decode b_T_scanText 70 = .ok (.iadd, 1) := by decide +kernel
theorem d_T_scanText_71 : decode b_T_scanText 71 = .ok (.invokevirtual 143, 3) := by decide +kernel
theorem d_T_scanText_74 : decode b_T_scanText 74 = .ok (.goto 4, 3) := by decide +kernel
theorem d_T_scanText_77 : decode b_T_scanText 77 = .ok (.iconst (-1), 1) := by decide +kernel
theorem d_T_scanText_78 : decode b_T_scanText 78 = .ok (.istore 5, 2) := by decide +kernel
theorem d_T_scanText_80 : decode b_T_scanText 80 = .ok (.iload 5, 2) := by decide +kernel
theorem d_T_scanText_82 : decode b_T_scanText 82 = .ok (.ifCond .lt 18, 3) := by decide +kernel
theorem d_T_scanText_85 : decode b_T_scanText 85 = .ok (.aload_n 0, 1) := by decide +kernel
theorem d_T_scanText_86 : decode b_T_scanText 86 = .ok (.iconst 4, 1) := by decide +kernel
theorem d_T_scanText_87 : decode b_T_scanText 87 = .ok (.getstatic 51, 3) := by decide +kernel
theorem d_T_scanText_90 : decode b_T_scanText 90 = .ok (.sipush 256, 3) := by decide +kernel
theorem d_T_scanText_93 : decode b_T_scanText 93 = .ok (.iload 5, 2) := by decide +kernel
theorem d_T_scanText_95 : decode b_T_scanText 95 = .ok (.invokevirtual 55, 3) := by decide +kernel
theorem d_T_scanText_98 : decode b_T_scanText 98 = .ok (.iconst 1, 1) := by decide +kernel
theorem d_T_scanText_99 : decode b_T_scanText 99 = .ok (.ireturn, 1) := by decide +kernel
theorem d_T_scanText_100 : decode b_T_scanText 100 = .ok (.aload_n 0, 1) := by decide +kernel
theorem d_T_scanText_101 : decode b_T_scanText 101 = .ok (.iload_n 3, 1) := by decide +kernel
theorem d_T_scanText_102 : decode b_T_scanText 102 = .ok (.invokevirtual 67, 3) := by decide +kernel
theorem d_T_scanText_105 : decode b_T_scanText 105 = .ok (.istore_n 3, 1) := by decide +kernel
theorem d_T_scanText_106 : decode b_T_scanText 106 = .ok (.iinc 4 1, 3) := by decide +kernel
theorem d_T_scanText_109 : decode b_T_scanText 109 = .ok (.goto (-64), 3) := by decide +kernel
theorem d_T_scanText_112 : decode b_T_scanText 112 = .ok (.iconst 0, 1) := by decide +kernel
theorem d_T_scanText_113 : decode b_T_scanText 113 = .ok (.ireturn, 1) := by decide +kernel
theorem d_T_scanToken_0 : decode b_T_scanToken 0 = .ok (.aload_n 0, 1) := by decide +kernel
theorem d_T_scanToken_1 : decode b_T_scanToken 1 = .ok (.aload_n 0, 1) := by decide +kernel
theorem d_T_scanToken_2 : decode b_T_scanToken 2 = .ok (.getfield 45, 3) := by decide +kernel
theorem d_T_scanToken_5 : decode b_T_scanToken 5 = .ok (.invokevirtual 63, 3) := by decide +kernel
theorem d_T_scanToken_8 : decode b_T_scanToken 8 = .ok (.istore_n 1, 1) := by decide +kernel
theorem d_T_scanToken_9 : decode b_T_scanToken 9 = .ok (.iload_n 1, 1) := by decide +kernel
theorem d_T_scanToken_10 : decode b_T_scanToken 10 = .ok (.invokestatic 73, 3) := by decide +kernel
theorem d_T_scanToken_13 : decode b_T_scanToken 13 = .ok (.ifCond .eq 8, 3) := by decide +kernel
theorem d_T_scanToken_16 : decode b_T_scanToken 16 = .ok (.aload_n 0, 1) := by decide +kernel
theorem d_T_scanToken_17 : decode b_T_scanToken 17 = .ok (.invokevirtual 77, 3) := by decide +kernel
theorem d_T_scanToken_20 : decode b_T_scanToken 20 = .ok (.ireturn, 1) := by decide +kernel
theorem d_T_scanToken_21 : decode b_T_scanToken 21 = .ok (.iload_n 1, 1) := by decide +kernel
theorem d_T_scanToken_22 : decode b_T_scanToken 22 = .ok (.bipush 58, 2) := by decide +kernel
theorem d_T_scanToken_24 : decode b_T_scanToken 24 = .ok (.if_icmp .ne 8, 3) := by decide +kernel
theorem d_T_scanToken_27 : decode b_T_scanToken 27 = .ok (.aload_n 0, 1) := by decide +kernel
theorem d_T_scanToken_28 : decode b_T_scanToken 28 = .ok (.invokevirtual 80, 3) := by decide +kernel
theorem d_T_scanToken_31 : decode b_T_scanToken 31 = .ok (.ireturn, 1) := by decide +kernel
theorem d_T_scanToken_32 : decode b_T_scanToken 32 = .ok (.iload_n 1, 1) := by decide +kernel
theorem d_T_scanToken_33 : decode b_T_scanToken 33 = .ok (.invokestatic 83, 3) := by decide +kernel
theorem d_T_scanToken_36 : decode b_T_scanToken 36 = .ok (.ifCond .eq 8, 3) := by decide +kernel
theorem d_T_scanToken_39 : decode b_T_scanToken 39 = .ok (.aload_n 0, 1) := by decide +kernel
theorem d_T_scanToken_40 : decode b_T_scanToken 40 = .ok (.invokevirtual 86, 3) := by decide +kernel
theorem d_T_scanToken_43 : decode b_T_scanToken 43 = .ok (.ireturn, 1) := by decide +kernel
theorem d_T_scanToken_44 : decode b_T_scanToken 44 = .ok (.iload_n 1, 1) := by decide +kernel
theorem d_T_scanToken_45 : decode b_T_scanToken 45 = .ok (.bipush 34, 2) := by decide +kernel
theorem d_T_scanToken_47 : decode b_T_scanToken 47 = .ok (.if_icmp .ne 8, 3) := by decide +kernel
theorem d_T_scanToken_50 : decode b_T_scanToken 50 = .ok (.aload_n 0, 1) := by decide +kernel
theorem d_T_scanToken_51 : decode b_T_scanToken 51 = .ok (.invokevirtual 89, 3) := by decide +kernel
theorem d_T_scanToken_54 : decode b_T_scanToken 54 = .ok (.ireturn, 1) := by decide +kernel
theorem d_T_scanToken_55 : decode b_T_scanToken 55 = .ok (.iload_n 1, 1) := by decide +kernel
theorem d_T_scanToken_56 : decode b_T_scanToken 56 = .ok (.ifCond .lt 13, 3) := by decide +kernel
theorem d_T_scanToken_59 : decode b_T_scanToken 59 = .ok (.ldc 92, 2) := by decide +kernel
theorem d_T_scanToken_61 : decode b_T_scanToken 61 = .ok (.iload_n 1, 1) := by decide +kernel
theorem d_T_scanToken_62 : decode b_T_scanToken 62 = .ok (.i2c, 1) := by decide +kernel
theorem d_T_scanToken_63 : decode b_T_scanToken 63 = .ok (.invokevirtual 94, 3) := by decide +kernel
theorem d_T_scanToken_66 : decode b_T_scanToken 66 = .ok (.ifCond .ge 5, 3) := by decide +kernel
theorem d_T_scanToken_69 : decode b_T_scanToken 69 = .ok (.iconst 0, 1) := by decide +kernel
theorem d_T_scanToken_70 : decode b_T_scanToken 70 = .ok (.ireturn, 1) := by decide +kernel
theorem d_T_scanToken_71 : decode b_T_scanToken 71 = .ok (.aload_n 0, 1) := by decide +kernel
theorem d_T_scanToken_72 : decode b_T_scanToken 72 = .ok (.iload_n 1, 1) := by decide +kernel
theorem d_T_scanToken_73 : decode b_T_scanToken 73 = .ok (.getstatic 51, 3) := by decide +kernel
theorem d_T_scanToken_76 : decode b_T_scanToken 76 = .ok (.iconst 0, 1) := by decide +kernel
theorem d_T_scanToken_77 : decode b_T_scanToken 77 = .ok (.aload_n 0, 1) := by decide +kernel
theorem d_T_scanToken_78 : decode b_T_scanToken 78 = .ok (.getfield 45, 3) := by decide +kernel
theorem d_T_scanToken_81 : decode b_T_scanToken 81 = .ok (.iconst 1, 1) := by decide +kernel
theorem d_T_scanToken_82 : decode b_T_scanToken 82 = .ok (.iadd, 1) := by decide +kernel
theorem d_T_scanToken_83 : decode b_T_scanToken 83 = .ok (.invokevirtual 55, 3) := by decide +kernel
theorem d_T_scanToken_86 : decode b_T_scanToken 86 = .ok (.iconst 1, 1) := by decide +kernel
theorem d_T_scanToken_87 : decode b_T_scanToken 87 = .ok (.ireturn, 1) := by decide +kernel
theorem d_T_scanWord_0 : decode b_T_scanWord 0 = .ok (.aload_n 0, 1) := by decide +kernel
theorem d_T_scanWord_1 : decode b_T_scanWord 1 = .ok (.aload_n 0, 1) := by decide +kernel
theorem d_T_scanWord_2 : decode b_T_scanWord 2 = .ok (.getfield 45, 3) := by decide +kernel
theorem d_T_scanWord_5 : decode b_T_scanWord 5 = .ok (.invokevirtual 102, 3) := by decide +kernel
theorem d_T_scanWord_8 : decode b_T_scanWord 8 = .ok (.istore_n 1, 1) := by decide +kernel
theorem d_T_scanWord_9 : decode b_T_scanWord 9 = .ok (.aload_n 0, 1) := by decide +kernel
theorem d_T_scanWord_10 : decode b_T_scanWord 10 = .ok (.iload_n 1, 1) := by decide +kernel
theorem d_T_scanWord_11 : decode b_T_scanWord 11 = .ok (.invokevirtual 63, 3) := by decide +kernel
theorem d_T_scanWord_14 : decode b_T_scanWord 14 = .ok (.bipush 58, 2) := by decide +kernel
theorem d_T_scanWord_16 : decode b_T_scanWord 16 = .ok (.if_icmp .ne 28, 3) := by decide +kernel
theorem d_T_scanWord_19 : decode b_T_scanWord 19 = .ok (.aload_n 0, 1) := by decide +kernel
theorem d_T_scanWord_20 : decode b_T_scanWord 20 = .ok (.getfield 9, 3) := by decide +kernel
theorem d_T_scanWord_23 : decode b_T_scanWord 23 = .ok (.aload_n 0, 1) := by decide +kernel
theorem d_T_scanWord_24 : decode b_T_scanWord 24 = .ok (.getfield 45, 3) := by decide +kernel
theorem d_T_scanWord_27 : decode b_T_scanWord 27 = .ok (.iload_n 1, 1) := by decide +kernel
theorem d_T_scanWord_28 : decode b_T_scanWord 28 = .ok (.ldc 105, 2) := by decide +kernel
theorem d_T_scanWord_30 : decode b_T_scanWord 30 = .ok (.invokestatic 107, 3) := by decide +kernel
theorem d_T_scanWord_33 : decode b_T_scanWord 33 = .ok (.ifCond .eq 11, 3) := by decide +kernel
theorem d_T_scanWord_36 : decode b_T_scanWord 36 = .ok (.aload_n 0, 1) := by decide +kernel
theorem d_T_scanWord_37 : decode b_T_scanWord 37 = .ok (.iload_n 1, 1) := by decide +kernel
theorem d_T_scanWord_38 : decode b_T_scanWord 38 = .ok (.iconst 1, 1) := by decide +kernel
theorem d_T_scanWord_39 : decode b_T_scanWord 39 = .ok (.iadd, 1) := by decide +kernel
theorem d_T_scanWord_40 : decode b_T_scanWord 40 = .ok (.invokevirtual 111, 3) := by decide +kernel
theorem d_T_scanWord_43 : decode b_T_scanWord 43 = .ok (.ireturn, 1) := by decide +kernel
theorem d_T_scanWord_44 : decode b_T_scanWord 44 = .ok (.aload_n 0, 1) := by decide +kernel
theorem d_T_scanWord_45 : decode b_T_scanWord 45 = .ok (.iconst 1, 1) := by decide +kernel
theorem d_T_scanWord_46 : decode b_T_scanWord 46 = .ok (.aload_n 0, 1) := by decide +kernel
theorem d_T_scanWord_47 : decode b_T_scanWord 47 = .ok (.getfield 9, 3) := by decide +kernel
theorem d_T_scanWord_50 : decode b_T_scanWord 50 = .ok (.aload_n 0, 1) := by decide +kernel
theorem d_T_scanWord_51 : decode b_T_scanWord 51 = .ok (.getfield 45, 3) := by decide +kernel
theorem d_T_scanWord_54 : decode b_T_scanWord 54 = .ok (.iload_n 1, 1) := by decide +kernel
theorem d_T_scanWord_55 : decode b_T_scanWord 55 = .ok (.invokestatic 114, 3) := by decide +kernel
theorem d_T_scanWord_58 : decode b_T_scanWord 58 = .ok (.iconst 0, 1) := by decide +kernel
theorem d_T_scanWord_59 : decode b_T_scanWord 59 = .ok (.iload_n 1, 1) := by decide +kernel
theorem d_T_scanWord_60 : decode b_T_scanWord 60 = .ok (.invokevirtual 55, 3) := by decide +kernel
theorem d_T_scanWord_63 : decode b_T_scanWord 63 = .ok (.iconst 1, 1) := by decide +kernel
theorem d_T_scanWord_64 : decode b_T_scanWord 64 = .ok (.ireturn, 1) := by decide +kernel
theorem d_T_shiftOf_0 : decode b_T_shiftOf 0 = .ok (.iload_n 0, 1) := by decide +kernel
theorem d_T_shiftOf_1 : decode b_T_shiftOf 1 = .ok (.lookupswitch 68 #[(71, 65), (75, 59), (77, 62), (103, 65), (107, 59), (109, 62)], 59) := by decide +kernel
theorem d_T_shiftOf_60 : decode b_T_shiftOf 60 = .ok (.bipush 10, 2) := by decide +kernel
theorem d_T_shiftOf_62 : decode b_T_shiftOf 62 = .ok (.ireturn, 1) := by decide +kernel
theorem d_T_shiftOf_63 : decode b_T_shiftOf 63 = .ok (.bipush 20, 2) := by decide +kernel
theorem d_T_shiftOf_65 : decode b_T_shiftOf 65 = .ok (.ireturn, 1) := by decide +kernel
theorem d_T_shiftOf_66 : decode b_T_shiftOf 66 = .ok (.bipush 30, 2) := by decide +kernel
theorem d_T_shiftOf_68 : decode b_T_shiftOf 68 = .ok (.ireturn, 1) := by decide +kernel
theorem d_T_shiftOf_69 : decode b_T_shiftOf 69 = .ok (.iconst 0, 1) := by decide +kernel
theorem d_T_shiftOf_70 : decode b_T_shiftOf 70 = .ok (.ireturn, 1) := by decide +kernel
theorem d_T_skipGap_0 : decode b_T_skipGap 0 = .ok (.iconst 0, 1) := by decide +kernel
theorem d_T_skipGap_1 : decode b_T_skipGap 1 = .ok (.istore_n 1, 1) := by decide +kernel
theorem d_T_skipGap_2 : decode b_T_skipGap 2 = .ok (.iload_n 1, 1) := by decide +kernel
theorem d_T_skipGap_3 : decode b_T_skipGap 3 = .ok (.sipush 400, 3) := by decide +kernel
theorem d_T_skipGap_6 : decode b_T_skipGap 6 = .ok (.if_icmp .ge 146, 3) := by decide +kernel
theorem d_T_skipGap_9 : decode b_T_skipGap 9 = .ok (.aload_n 0, 1) := by decide +kernel
theorem d_T_skipGap_10 : decode b_T_skipGap 10 = .ok (.getfield 45, 3) := by decide +kernel
theorem d_T_skipGap_13 : decode b_T_skipGap 13 = .ok (.aload_n 0, 1) := by decide +kernel
theorem d_T_skipGap_14 : decode b_T_skipGap 14 = .ok (.getfield 42, 3) := by decide +kernel
theorem d_T_skipGap_17 : decode b_T_skipGap 17 = .ok (.if_icmp .ge 135, 3) := by decide +kernel
theorem d_T_skipGap_20 : decode b_T_skipGap 20 = .ok (.aload_n 0, 1) := by decide +kernel
theorem d_T_skipGap_21 : decode b_T_skipGap 21 = .ok (.aload_n 0, 1) := by decide +kernel
theorem d_T_skipGap_22 : decode b_T_skipGap 22 = .ok (.getfield 45, 3) := by decide +kernel
theorem d_T_skipGap_25 : decode b_T_skipGap 25 = .ok (.invokevirtual 63, 3) := by decide +kernel
theorem d_T_skipGap_28 : decode b_T_skipGap 28 = .ok (.istore_n 2, 1) := by decide +kernel
theorem d_T_skipGap_29 : decode b_T_skipGap 29 = .ok (.iload_n 2, 1) := by decide +kernel
theorem d_T_skipGap_30 : decode b_T_skipGap 30 = .ok (.bipush 32, 2) := by decide +kernel
theorem d_T_skipGap_32 : decode b_T_skipGap 32 = .ok (.if_icmp .eq 21, 3) := by decide +kernel
theorem d_T_skipGap_35 : decode b_T_skipGap 35 = .ok (.iload_n 2, 1) := by decide +kernel
theorem d_T_skipGap_36 : decode b_T_skipGap 36 = .ok (.bipush 9, 2) := by decide +kernel
theorem d_T_skipGap_38 : decode b_T_skipGap 38 = .ok (.if_icmp .eq 15, 3) := by decide +kernel
theorem d_T_skipGap_41 : decode b_T_skipGap 41 = .ok (.iload_n 2, 1) := by decide +kernel
theorem d_T_skipGap_42 : decode b_T_skipGap 42 = .ok (.bipush 10, 2) := by decide +kernel
theorem d_T_skipGap_44 : decode b_T_skipGap 44 = .ok (.if_icmp .eq 9, 3) := by decide +kernel
theorem d_T_skipGap_47 : decode b_T_skipGap 47 = .ok (.iload_n 2, 1) := by decide +kernel
theorem d_T_skipGap_48 : decode b_T_skipGap 48 = .ok (.bipush 13, 2) := by decide +kernel
theorem d_T_skipGap_50 : decode b_T_skipGap 50 = .ok (.if_icmp .ne 16, 3) := by decide +kernel
theorem d_T_skipGap_53 : decode b_T_skipGap 53 = .ok (.aload_n 0, 1) := by decide +kernel
theorem d_T_skipGap_54 : decode b_T_skipGap 54 = .ok (.dup, 1) := by decide +kernel
theorem d_T_skipGap_55 : decode b_T_skipGap 55 = .ok (.getfield 45, 3) := by decide +kernel
theorem d_T_skipGap_58 : decode b_T_skipGap 58 = .ok (.iconst 1, 1) := by decide +kernel
theorem d_T_skipGap_59 : decode b_T_skipGap 59 = .ok (.iadd, 1) := by decide +kernel
theorem d_T_skipGap_60 : decode b_T_skipGap 60 = .ok (.putfield 45, 3) := by decide +kernel
theorem d_T_skipGap_63 : decode b_T_skipGap 63 = .ok (.goto 83, 3) := by decide +kernel
theorem d_T_skipGap_66 : decode b_T_skipGap 66 = .ok (.iload_n 2, 1) := by decide +kernel
theorem d_T_skipGap_67 : decode b_T_skipGap 67 = .ok (.bipush 35, 2) := by decide +kernel
theorem d_T_skipGap_69 : decode b_T_skipGap 69 = .ok (.if_icmp .ne 31, 3) := by decide +kernel
theorem d_T_skipGap_72 : decode b_T_skipGap 72 = .ok (.aload_n 0, 1) := by decide +kernel
theorem d_T_skipGap_73 : decode b_T_skipGap 73 = .ok (.aload_n 0, 1) := by decide +kernel
theorem d_T_skipGap_74 : decode b_T_skipGap 74 = .ok (.getfield 45, 3) := by decide +kernel
theorem d_T_skipGap_77 : decode b_T_skipGap 77 = .ok (.invokevirtual 67, 3) := by decide +kernel
theorem d_T_skipGap_80 : decode b_T_skipGap 80 = .ok (.istore_n 3, 1) := by decide +kernel
theorem d_T_skipGap_81 : decode b_T_skipGap 81 = .ok (.aload_n 0, 1) := by decide +kernel
theorem d_T_skipGap_82 : decode b_T_skipGap 82 = .ok (.iload_n 3, 1) := by decide +kernel
theorem d_T_skipGap_83 : decode b_T_skipGap 83 = .ok (.ifCond .ge 10, 3) := by decide +kernel
theorem d_T_skipGap_86 : decode b_T_skipGap 86 = .ok (.aload_n 0, 1) := by decide +kernel
theorem d_T_skipGap_87 : decode b_T_skipGap 87 = .ok (.getfield 42, 3) := by decide +kernel
theorem d_T_skipGap_90 : decode b_T_skipGap 90 = .ok (.goto 4, 3) := by decide +kernel
theorem d_T_skipGap_93 : decode b_T_skipGap 93 = .ok (.iload_n 3, 1) := by decide +kernel
theorem d_T_skipGap_94 : decode b_T_skipGap 94 = .ok (.putfield 45, 3) := by decide +kernel
theorem d_T_skipGap_97 : decode b_T_skipGap 97 = .ok (.goto 49, 3) := by decide +kernel
theorem d_T_skipGap_100 : decode b_T_skipGap 100 = .ok (.iload_n 2, 1) := by decide +kernel
theorem d_T_skipGap_101 : decode b_T_skipGap 101 = .ok (.bipush 47, 2) := by decide +kernel
theorem d_T_skipGap_103 : decode b_T_skipGap 103 = .ok (.if_icmp .ne 42, 3) := by decide +kernel
theorem d_T_skipGap_106 : decode b_T_skipGap 106 = .ok (.aload_n 0, 1) := by decide +kernel
theorem d_T_skipGap_107 : decode b_T_skipGap 107 = .ok (.aload_n 0, 1) := by decide +kernel
theorem d_T_skipGap_108 : decode b_T_skipGap 108 = .ok (.getfield 45, 3) := by decide +kernel
theorem d_T_skipGap_111 : decode b_T_skipGap 111 = .ok (.iconst 1, 1) := by decide +kernel
theorem d_T_skipGap_112 : decode b_T_skipGap 112 = .ok (.iadd, 1) := by decide +kernel
theorem d_T_skipGap_113 : decode b_T_skipGap 113 = .ok (.invokevirtual 63, 3) := by decide +kernel
theorem d_T_skipGap_116 : decode b_T_skipGap 116 = .ok (.bipush 42, 2) := by decide +kernel
theorem d_T_skipGap_118 : decode b_T_skipGap 118 = .ok (.if_icmp .ne 27, 3) := by decide +kernel
theorem d_T_skipGap_121 : decode b_T_skipGap 121 = .ok (.aload_n 0, 1) := by decide +kernel
theorem d_T_skipGap_122 : decode b_T_skipGap 122 = .ok (.aload_n 0, 1) := by decide +kernel
theorem d_T_skipGap_123 : decode b_T_skipGap 123 = .ok (.getfield 45, 3) := by decide +kernel
theorem d_T_skipGap_126 : decode b_T_skipGap 126 = .ok (.iconst 2, 1) := by decide +kernel
theorem d_T_skipGap_127 : decode b_T_skipGap 127 = .ok (.iadd, 1) := by decide +kernel
theorem d_T_skipGap_128 : decode b_T_skipGap 128 = .ok (.invokevirtual 70, 3) := by decide +kernel
theorem d_T_skipGap_131 : decode b_T_skipGap 131 = .ok (.istore_n 3, 1) := by decide +kernel
theorem d_T_skipGap_132 : decode b_T_skipGap 132 = .ok (.iload_n 3, 1) := by decide +kernel
theorem d_T_skipGap_133 : decode b_T_skipGap 133 = .ok (.ifCond .ge 4, 3) := by decide +kernel
theorem d_T_skipGap_136 : decode b_T_skipGap 136 = .ok (.return_, 1) := by decide +kernel
theorem d_T_skipGap_137 : decode b_T_skipGap 137 = .ok (.aload_n 0, 1) := by decide +kernel
theorem d_T_skipGap_138 : decode b_T_skipGap 138 = .ok (.iload_n 3, 1) := by decide +kernel
theorem d_T_skipGap_139 : decode b_T_skipGap 139 = .ok (.putfield 45, 3) := by decide +kernel
theorem d_T_skipGap_142 : decode b_T_skipGap 142 = .ok (.goto 4, 3) := by decide +kernel
theorem d_T_skipGap_145 : decode b_T_skipGap 145 = .ok (.return_, 1) := by decide +kernel
theorem d_T_skipGap_146 : decode b_T_skipGap 146 = .ok (.iinc 1 1, 3) := by decide +kernel
theorem d_T_skipGap_149 : decode b_T_skipGap 149 = .ok (.goto (-147), 3) := by decide +kernel
theorem d_T_skipGap_152 : decode b_T_skipGap 152 = .ok (.return_, 1) := by decide +kernel
theorem d_T_wordEnd_0 : decode b_T_wordEnd 0 = .ok (.iload_n 1, 1) := by decide +kernel
theorem d_T_wordEnd_1 : decode b_T_wordEnd 1 = .ok (.istore_n 2, 1) := by decide +kernel
theorem d_T_wordEnd_2 : decode b_T_wordEnd 2 = .ok (.iload_n 2, 1) := by decide +kernel
theorem d_T_wordEnd_3 : decode b_T_wordEnd 3 = .ok (.aload_n 0, 1) := by decide +kernel
theorem d_T_wordEnd_4 : decode b_T_wordEnd 4 = .ok (.getfield 42, 3) := by decide +kernel
theorem d_T_wordEnd_7 : decode b_T_wordEnd 7 = .ok (.if_icmp .ge 20, 3) := by decide +kernel
theorem d_T_wordEnd_10 : decode b_T_wordEnd 10 = .ok (.aload_n 0, 1) := by decide +kernel
theorem d_T_wordEnd_11 : decode b_T_wordEnd 11 = .ok (.iload_n 2, 1) := by decide +kernel
theorem d_T_wordEnd_12 : decode b_T_wordEnd 12 = .ok (.invokevirtual 63, 3) := by decide +kernel
theorem d_T_wordEnd_15 : decode b_T_wordEnd 15 = .ok (.invokestatic 99, 3) := by decide +kernel
theorem d_T_wordEnd_18 : decode b_T_wordEnd 18 = .ok (.ifCond .eq 9, 3) := by decide +kernel
theorem d_T_wordEnd_21 : decode b_T_wordEnd 21 = .ok (.iinc 2 1, 3) := by decide +kernel
theorem d_T_wordEnd_24 : decode b_T_wordEnd 24 = .ok (.goto (-22), 3) := by decide +kernel
theorem d_T_wordEnd_27 : decode b_T_wordEnd 27 = .ok (.iload_n 2, 1) := by decide +kernel
theorem d_T_wordEnd_28 : decode b_T_wordEnd 28 = .ok (.ireturn, 1) := by decide +kernel
